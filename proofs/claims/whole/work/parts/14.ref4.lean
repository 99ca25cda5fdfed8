/-! the reference: puts, tips, swaps, takes, permits, oils -/
def sTi (s : Nat → Int32) (n c : Nat) : Nat → Int32 :=
  let ld := s (34 + 10 * n + 3)
  let s1 := upd s 9 (s 9 + nI 1)
  let s2 := sCh s1 n c (s1 5 + s1 4 * ld)
  let s3 := upd s2 (15 + 3 * c + 1) (s2 (15 + 3 * c + 1) + ld)
  upd s3 (34 + 10 * n + 3) (nI 0)
/-- swaps(v): what it answers, and the row behind it -/
def sSw (s : Nat → Int32) (v : Int32) : Int32 × (Nat → Int32) := if nI 0 ≤ v ∧ v ≤ s 33 - nI 1 then (if sTl s = 0 then (-5, s) else (s (34 + 10 * v.toNatClampNeg + 3), sTi s v.toNatClampNeg (cuN s v.toNatClampNeg))) else (-1, s)
def sTk (s : Nat → Int32) (v : Int32) : Int32 × (Nat → Int32) := if (sSw s v).1 < 0 then sSw s v else
  ((sSw s v).1, let x := zlp (fun k x => upd x (34 + 10 * v.toNatClampNeg + 0 + k) (x (34 + 10 * v.toNatClampNeg + 0 + k + 10))) (90 - 10 * v.toNatClampNeg) 0 (sSw s v).2; upd x 33 (x 33 - nI 1))
def sPe (s : Nat → Int32) (v d : Int32) : Int32 × (Nat → Int32) := if nI 0 ≤ v ∧ v ≤ s 33 - nI 1 then (if nI 1 ≤ d ∧ d ≤ nI 99 then (if s (34 + 10 * v.toNatClampNeg + 2) < nI 5 then
    (let fr := if s (34 + 10 * v.toNatClampNeg + 6) ≠ -6 ∧ s 8 ≤ s (34 + 10 * v.toNatClampNeg + 6) then s (34 + 10 * v.toNatClampNeg + 6) else s 8 - nI 1
     let s1 := upd s (34 + 10 * v.toNatClampNeg + 6) (fr + d)
     (fr + d, sCh s1 v.toNatClampNeg (cuN s v.toNatClampNeg) (s1 1 * d))) else (-5, s)) else (-2, s)) else (-1, s)
def sOi (s : Nat → Int32) (v : Int32) : Int32 × (Nat → Int32) := if nI 0 ≤ v ∧ v ≤ s 33 - nI 1 then (s (34 + 10 * v.toNatClampNeg + 5), upd s (34 + 10 * v.toNatClampNeg + 5) (s 6)) else (-1, s)
def sPu (s : Nat → Int32) (n c : Nat) (z st g : Int32) : Nat → Int32 :=
  let s1 := upd s 33 (s 33 + nI 1)
  let s2 := zlp (fun w x => upd x (34 + 10 * n + w) (nI 0)) 10 0 s1
  let s3 := upd s2 (34 + 10 * n + 0) (nI c)
  let s4 := upd s3 (34 + 10 * n + 1) z
  let s5 := upd s4 (34 + 10 * n + 2) st
  let s6 := upd s5 (34 + 10 * n + 4) g
  let s7 := upd s6 (34 + 10 * n + 5) (s6 6)
  let s8 := upd s7 (34 + 10 * n + 6) (-6)
  let s9 := upd s8 (34 + 10 * n + 8) (s8 8)
  let s10 := upd s9 9 (s9 9 + nI 1)
  sCh s10 n c (s10 5)
def sPl (s : Nat → Int32) (n : Nat) (st : Int32) : Prop := st = nI 5 ∨ sCntSt s n st < s (10 + st.toNatClampNeg)
def sPuts (s : Nat → Int32) (n : Nat) (cu z st g : Int32) : Int32 × (Nat → Int32) := if (nI 0 ≤ cu ∧ cu ≤ nI 5) ∧ (nI 0 ≤ st ∧ st ≤ nI 5) then (if (nI 0 ≤ z ∧ z ≤ nI 3) ∧ (nI 0 ≤ g ∧ g ≤ nI 30) then
    (if (st = nI 5 ∨ sCntSt s n st < s (10 + st.toNatClampNeg)) ∧ ¬ sTl s = 0 then (if s 33 = nI 10 then (-4, s) else (nI n, sPu s n cu.toNatClampNeg z st g)) else (-5, s)) else (-2, s)) else (-1, s)
set_option maxRecDepth 100000 in
set_option maxHeartbeats 4000000 in
theorem c_X6_tips {h : zhp} (hM : zMo h) (F s a t l p : Nat → Int32) (n c : Nat) (hn : n < 10) (hc : c < 6) (hcu : s (34 + 10 * n + 0) = nI c) : MM iX6_tips [.ref 181, .int (nI n)] (zm h F s a t l p) (zfi (s (34 + 10 * n + 3)) (zm h F (sTi s n c) a t l p)) := by
  refine MM_of (by decide +kernel) (Nat.le_of_ble_eq_true rfl) ?_
  refine tt_aload_n dX6_tips_0 rfl ?_
  refine tt_mA (b := 182) dX6_tips_1 fX6_7 rfl hM hM.2.1 ?_
  refine tt_iload_n dX6_tips_4 rfl ?_
  refine tt_iconst (nI 3) dX6_tips_5 rfl ?_
  refine tt_fSi (c_X6_of _ _ _) dX6_tips_6 sX6_29 rfl rfl (by decide) ⟨rfl, rfl⟩ (Nat.zero_le _) (Nat.zero_le _) (Nat.le_of_ble_eq_true rfl) ?_
  refine tt_ld1 dX6_tips_9 hM (by omega) ?_
  refine tt_istore_n dX6_tips_10 rfl (Nat.le_of_ble_eq_true rfl) rfl ?_
  refine tt_aload_n dX6_tips_11 rfl ?_
  refine tt_mA (b := 182) dX6_tips_12 fX6_7 rfl hM hM.2.1 ?_
  refine tt_bipush (nI 9) dX6_tips_15 rfl ?_
  refine tt_dup2 dX6_tips_17 rfl rfl ?_
  refine tt_ld1 dX6_tips_18 hM (by omega) ?_
  refine tt_iconst (nI 1) dX6_tips_19 rfl ?_
  refine tt_iadd dX6_tips_20 ?_
  refine tt_st1 dX6_tips_21 hM (by omega) ?_
  refine tt_aload_n dX6_tips_22 rfl ?_
  refine tt_iload_n dX6_tips_23 rfl ?_
  refine tt_aload_n dX6_tips_24 rfl ?_
  refine tt_mA (b := 182) dX6_tips_25 fX6_7 rfl hM hM.2.1 ?_
  refine tt_iconst (nI 5) dX6_tips_28 rfl ?_
  refine tt_ld1 dX6_tips_29 hM (by omega) ?_
  refine tt_aload_n dX6_tips_30 rfl ?_
  refine tt_mA (b := 182) dX6_tips_31 fX6_7 rfl hM hM.2.1 ?_
  refine tt_iconst (nI 4) dX6_tips_34 rfl ?_
  refine tt_ld1 dX6_tips_35 hM (by omega) ?_
  refine tt_iload_n dX6_tips_36 rfl ?_
  refine tt_imul dX6_tips_37 ?_
  refine tt_iadd dX6_tips_38 ?_
  refine tt_fVv (c_X6_charges hM _ _ _ _ _ _ _ c _ hn hc (by rw [pk_un (by omega)]; exact hcu)) dX6_tips_39 vX6_43 rfl rfl hM.1 (by decide) rfl (by decide) ⟨rfl, rfl⟩ (Nat.zero_le _) (Nat.zero_le _) (Nat.le_of_ble_eq_true rfl) ?_
  refine tt_aload_n dX6_tips_42 rfl ?_
  refine tt_mA (b := 182) dX6_tips_43 fX6_7 rfl hM hM.2.1 ?_
  refine tt_aload_n dX6_tips_46 rfl ?_
  refine tt_mA (b := 182) dX6_tips_47 fX6_7 rfl hM hM.2.1 ?_
  refine tt_iload_n dX6_tips_50 rfl ?_
  refine tt_iconst (nI 0) dX6_tips_51 rfl ?_
  refine tt_fSi (c_X6_of _ _ _) dX6_tips_52 sX6_29 rfl rfl (by decide) ⟨rfl, rfl⟩ (Nat.zero_le _) (Nat.zero_le _) (Nat.le_of_ble_eq_true rfl) ?_
  refine tt_ld1 dX6_tips_55 hM (by omega) ?_
  refine tt_eq (show _ = nI c by rw [sCh_ne (by omega) (by omega), pk_un (by omega)]; exact hcu) ?_
  refine tt_iconst (nI 1) dX6_tips_56 rfl ?_
  refine tt_fSi (c_X6_ofCustomer _ _ _) dX6_tips_57 sX6_40 rfl rfl (by decide) ⟨rfl, rfl⟩ (Nat.zero_le _) (Nat.zero_le _) (Nat.le_of_ble_eq_true rfl) ?_
  refine tt_dup2 dX6_tips_60 rfl rfl ?_
  refine tt_ld1 dX6_tips_61 hM (by omega) ?_
  refine tt_iload_n dX6_tips_62 rfl ?_
  refine tt_iadd dX6_tips_63 ?_
  refine tt_st1 dX6_tips_64 hM (by omega) ?_
  refine tt_aload_n dX6_tips_65 rfl ?_
  refine tt_mA (b := 182) dX6_tips_66 fX6_7 rfl hM hM.2.1 ?_
  refine tt_iload_n dX6_tips_69 rfl ?_
  refine tt_iconst (nI 3) dX6_tips_70 rfl ?_
  refine tt_fSi (c_X6_of _ _ _) dX6_tips_71 sX6_29 rfl rfl (by decide) ⟨rfl, rfl⟩ (Nat.zero_le _) (Nat.zero_le _) (Nat.le_of_ble_eq_true rfl) ?_
  refine tt_iconst (nI 0) dX6_tips_74 rfl ?_
  refine tt_st1 dX6_tips_75 hM (by omega) ?_
  refine tt_iload_n dX6_tips_76 rfl ?_
  exact tt_ireturn dX6_tips_77 rfl rfl (Nat.zero_le _) (Nat.zero_le _) ⟨rfl, rfl⟩
set_option maxRecDepth 100000 in
set_option maxHeartbeats 4000000 in
theorem c_X6_swaps {h : zhp} (hM : zMo h) (F s a t l p : Nat → Int32) (n : Nat) (hw : sWF s n) (v : Int32) : MM iX6_swaps [.ref 181, .int v] (zm h F s a t l p) (zfi (sSw s v).1 (zm h F (sSw s v).2 a t l p)) := by
  refine MM_of (by decide +kernel) (Nat.le_of_ble_eq_true rfl) ?_
  refine tt_aload_n dX6_swaps_0 rfl ?_
  refine tt_iload_n dX6_swaps_1 rfl ?_
  refine tt_fVi (c_X6_isSkip hM _ _ _ _ _ _ _) dX6_swaps_2 vX6_84 rfl rfl hM.1 (by decide) rfl (by decide) ⟨rfl, rfl⟩ (Nat.zero_le _) (Nat.zero_le _) (Nat.le_of_ble_eq_true rfl) ?_
  refine tt_if_neB (tgt := 12) dX6_swaps_5 (by decide) (fun c_5 => ?_) (fun c_5 => ?_)
  · obtain ⟨n0, hn0, rfl⟩ := zskip hw.1 hw.2.1 c_5
    have hn10 := hw.1
    obtain ⟨c, hc, hcu⟩ := hw.2.2 n0 hn0
    have hq0 : (nI n0).toNatClampNeg = n0 := nI_clamp (by omega)
    have hqc : cuN s n0 = c := cuN_eq hc hcu
    refine tt_aload_n dX6_swaps_12 rfl ?_
    refine tt_fVi (c_X6_tripsLeft hM _ _ _ _ _ _) dX6_swaps_13 vX6_80 rfl rfl hM.1 (by decide) rfl (by decide) ⟨rfl, rfl⟩ (Nat.zero_le _) (Nat.zero_le _) (Nat.le_of_ble_eq_true rfl) ?_
    refine tt_if_ne (tgt := 24) dX6_swaps_16 (by decide) (fun c_16 => ?_) (fun c_16 => ?_)
    · refine tt_aload_n dX6_swaps_24 rfl ?_
      refine tt_iload_n dX6_swaps_25 rfl ?_
      refine tt_fVi (c_X6_tips hM _ _ _ _ _ _ n0 c (by omega) hc hcu) dX6_swaps_26 vX6_87 rfl rfl hM.1 (by decide) rfl (by decide) ⟨rfl, rfl⟩ (Nat.zero_le _) (Nat.zero_le _) (Nat.le_of_ble_eq_true rfl) ?_
      exact tt_ireturn dX6_swaps_29 rfl rfl (Nat.zero_le _) (Nat.zero_le _) ⟨by first | (unfold sSw; rw [if_neg c_5]; first | done | rfl) | (unfold sSw; rw [if_pos c_5, if_pos (by exact c_16)]; first | done | rfl) | (unfold sSw; rw [if_pos c_5, if_neg (by exact c_16), hq0]; first | done | rfl), by first | (unfold sSw; rw [if_neg c_5]; first | done | rfl) | (unfold sSw; rw [if_pos c_5, if_pos (by exact c_16)]; first | done | rfl) | (unfold sSw; rw [if_pos c_5, if_neg (by exact c_16), hq0, hqc]; first | done | rfl)⟩
    · refine tt_bipush (-5) dX6_swaps_19 rfl ?_
      refine tt_goto (tgt := 29) dX6_swaps_21 (by decide) ?_
      exact tt_ireturn dX6_swaps_29 rfl rfl (Nat.zero_le _) (Nat.zero_le _) ⟨by first | (unfold sSw; rw [if_neg c_5]; first | done | rfl) | (unfold sSw; rw [if_pos c_5, if_pos (by exact c_16)]; first | done | rfl) | (unfold sSw; rw [if_pos c_5, if_neg (by exact c_16), hq0]; first | done | rfl), by first | (unfold sSw; rw [if_neg c_5]; first | done | rfl) | (unfold sSw; rw [if_pos c_5, if_pos (by exact c_16)]; first | done | rfl) | (unfold sSw; rw [if_pos c_5, if_neg (by exact c_16), hq0, hqc]; first | done | rfl)⟩
  · refine tt_iconst (-1) dX6_swaps_8 rfl ?_
    refine tt_goto (tgt := 29) dX6_swaps_9 (by decide) ?_
    exact tt_ireturn dX6_swaps_29 rfl rfl (Nat.zero_le _) (Nat.zero_le _) ⟨by first | (unfold sSw; rw [if_neg c_5]; first | done | rfl) | (unfold sSw; rw [if_pos c_5, if_pos (by exact c_16)]; first | done | rfl) | (unfold sSw; rw [if_pos c_5, if_neg (by exact c_16), hq0]; first | done | rfl), by first | (unfold sSw; rw [if_neg c_5]; first | done | rfl) | (unfold sSw; rw [if_pos c_5, if_pos (by exact c_16)]; first | done | rfl) | (unfold sSw; rw [if_pos c_5, if_neg (by exact c_16), hq0, hqc]; first | done | rfl)⟩
set_option maxRecDepth 100000 in
set_option maxHeartbeats 4000000 in
theorem c_X6_oils {h : zhp} (hM : zMo h) (F s a t l p : Nat → Int32) (n : Nat) (hw : sWF s n) (v : Int32) : MM iX6_oils [.ref 181, .int v] (zm h F s a t l p) (zfi (sOi s v).1 (zm h F (sOi s v).2 a t l p)) := by
  refine MM_of (by decide +kernel) (Nat.le_of_ble_eq_true rfl) ?_
  refine tt_aload_n dX6_oils_0 rfl ?_
  refine tt_iload_n dX6_oils_1 rfl ?_
  refine tt_fVi (c_X6_isSkip hM _ _ _ _ _ _ _) dX6_oils_2 vX6_84 rfl rfl hM.1 (by decide) rfl (by decide) ⟨rfl, rfl⟩ (Nat.zero_le _) (Nat.zero_le _) (Nat.le_of_ble_eq_true rfl) ?_
  refine tt_if_neB (tgt := 10) dX6_oils_5 (by decide) (fun c_5 => ?_) (fun c_5 => ?_)
  · obtain ⟨n0, hn0, rfl⟩ := zskip hw.1 hw.2.1 c_5
    have hn10 := hw.1
    obtain ⟨c, hc, hcu⟩ := hw.2.2 n0 hn0
    have hq0 : (nI n0).toNatClampNeg = n0 := nI_clamp (by omega)
    have hqc : cuN s n0 = c := cuN_eq hc hcu
    refine tt_aload_n dX6_oils_10 rfl ?_
    refine tt_mA (b := 182) dX6_oils_11 fX6_7 rfl hM hM.2.1 ?_
    refine tt_iload_n dX6_oils_14 rfl ?_
    refine tt_iconst (nI 5) dX6_oils_15 rfl ?_
    refine tt_fSi (c_X6_of _ _ _) dX6_oils_16 sX6_29 rfl rfl (by decide) ⟨rfl, rfl⟩ (Nat.zero_le _) (Nat.zero_le _) (Nat.le_of_ble_eq_true rfl) ?_
    refine tt_ld1 dX6_oils_19 hM (by omega) ?_
    refine tt_istore_n dX6_oils_20 rfl (Nat.le_of_ble_eq_true rfl) rfl ?_
    refine tt_aload_n dX6_oils_21 rfl ?_
    refine tt_mA (b := 182) dX6_oils_22 fX6_7 rfl hM hM.2.1 ?_
    refine tt_iload_n dX6_oils_25 rfl ?_
    refine tt_iconst (nI 5) dX6_oils_26 rfl ?_
    refine tt_fSi (c_X6_of _ _ _) dX6_oils_27 sX6_29 rfl rfl (by decide) ⟨rfl, rfl⟩ (Nat.zero_le _) (Nat.zero_le _) (Nat.le_of_ble_eq_true rfl) ?_
    refine tt_aload_n dX6_oils_30 rfl ?_
    refine tt_mA (b := 182) dX6_oils_31 fX6_7 rfl hM hM.2.1 ?_
    refine tt_bipush (nI 6) dX6_oils_34 rfl ?_
    refine tt_ld1 dX6_oils_36 hM (by omega) ?_
    refine tt_st1 dX6_oils_37 hM (by omega) ?_
    refine tt_iload_n dX6_oils_38 rfl ?_
    exact tt_ireturn dX6_oils_39 rfl rfl (Nat.zero_le _) (Nat.zero_le _) ⟨by first | (unfold sOi; rw [if_neg c_5]; first | done | rfl) | (unfold sOi; rw [if_pos c_5, hq0]; first | done | rfl), by first | (unfold sOi; rw [if_neg c_5]; first | done | rfl) | (unfold sOi; rw [if_pos c_5, hq0]; first | done | rfl)⟩
  · refine tt_iconst (-1) dX6_oils_8 rfl ?_
    exact tt_ireturn dX6_oils_9 rfl rfl (Nat.zero_le _) (Nat.zero_le _) ⟨by first | (unfold sOi; rw [if_neg c_5]; first | done | rfl) | (unfold sOi; rw [if_pos c_5, hq0]; first | done | rfl), by first | (unfold sOi; rw [if_neg c_5]; first | done | rfl) | (unfold sOi; rw [if_pos c_5, hq0]; first | done | rfl)⟩
set_option maxRecDepth 100000 in
set_option maxHeartbeats 4000000 in
theorem c_X6_permits {h : zhp} (hM : zMo h) (F s a t l p : Nat → Int32) (n : Nat) (hw : sWF s n) (v d : Int32) : MM iX6_permits [.ref 181, .int v, .int d] (zm h F s a t l p) (zfi (sPe s v d).1 (zm h F (sPe s v d).2 a t l p)) := by
  refine MM_of (by decide +kernel) (Nat.le_of_ble_eq_true rfl) ?_
  refine tt_aload_n dX6_permits_0 rfl ?_
  refine tt_iload_n dX6_permits_1 rfl ?_
  refine tt_fVi (c_X6_isSkip hM _ _ _ _ _ _ _) dX6_permits_2 vX6_84 rfl rfl hM.1 (by decide) rfl (by decide) ⟨rfl, rfl⟩ (Nat.zero_le _) (Nat.zero_le _) (Nat.le_of_ble_eq_true rfl) ?_
  refine tt_if_neB (tgt := 10) dX6_permits_5 (by decide) (fun c_5 => ?_) (fun c_5 => ?_)
  · obtain ⟨n0, hn0, rfl⟩ := zskip hw.1 hw.2.1 c_5
    have hn10 := hw.1
    obtain ⟨c, hc, hcu⟩ := hw.2.2 n0 hn0
    have hq0 : (nI n0).toNatClampNeg = n0 := nI_clamp (by omega)
    have hqc : cuN s n0 = c := cuN_eq hc hcu
    refine tt_iload_n dX6_permits_10 rfl ?_
    refine tt_iconst (nI 1) dX6_permits_11 rfl ?_
    refine tt_bipush (nI 99) dX6_permits_12 rfl ?_
    refine tt_fSi (c_X6_in _ _ _ _) dX6_permits_14 sX6_25 rfl rfl (by decide) ⟨rfl, rfl⟩ (Nat.zero_le _) (Nat.zero_le _) (Nat.le_of_ble_eq_true rfl) ?_
    refine tt_if_neB (tgt := 23) dX6_permits_17 (by decide) (fun c_17 => ?_) (fun c_17 => ?_)
    · refine tt_aload_n dX6_permits_23 rfl ?_
      refine tt_iload_n dX6_permits_24 rfl ?_
      refine tt_fVi (c_X6_isInStreet hM _ _ _ _ _ _ _ (by omega)) dX6_permits_25 vX6_47 rfl rfl hM.1 (by decide) rfl (by decide) ⟨rfl, rfl⟩ (Nat.zero_le _) (Nat.zero_le _) (Nat.le_of_ble_eq_true rfl) ?_
      refine tt_if_neB (tgt := 34) dX6_permits_28 (by decide) (fun c_28 => ?_) (fun c_28 => ?_)
      · refine tt_aload_n dX6_permits_34 rfl ?_
        refine tt_iload_n dX6_permits_35 rfl ?_
        refine tt_fVi (c_X6_isPermitted hM _ _ _ _ _ _ _ (by omega)) dX6_permits_36 vX6_51 rfl rfl hM.1 (by decide) rfl (by decide) ⟨rfl, rfl⟩ (Nat.zero_le _) (Nat.zero_le _) (Nat.le_of_ble_eq_true rfl) ?_
        refine tt_c1 (tgt := 65) (x := if s (34 + 10 * n0 + 6) ≠ -6 ∧ s 8 ≤ s (34 + 10 * n0 + 6) then s (34 + 10 * n0 + 6) else s 8 - nI 1) ?_ (fun key_65 => ?_)
        · refine tt_istore_n dX6_permits_65 rfl (Nat.le_of_ble_eq_true rfl) rfl ?_
          refine tt_aload_n dX6_permits_66 rfl ?_
          refine tt_mA (b := 182) dX6_permits_67 fX6_7 rfl hM hM.2.1 ?_
          refine tt_iload_n dX6_permits_70 rfl ?_
          refine tt_bipush (nI 6) dX6_permits_71 rfl ?_
          refine tt_fSi (c_X6_of _ _ _) dX6_permits_73 sX6_29 rfl rfl (by decide) ⟨rfl, rfl⟩ (Nat.zero_le _) (Nat.zero_le _) (Nat.le_of_ble_eq_true rfl) ?_
          refine tt_iload_n dX6_permits_76 rfl ?_
          refine tt_iload_n dX6_permits_77 rfl ?_
          refine tt_iadd dX6_permits_78 ?_
          refine tt_st1 dX6_permits_79 hM (by omega) ?_
          refine tt_aload_n dX6_permits_80 rfl ?_
          refine tt_iload_n dX6_permits_81 rfl ?_
          refine tt_aload_n dX6_permits_82 rfl ?_
          refine tt_mA (b := 182) dX6_permits_83 fX6_7 rfl hM hM.2.1 ?_
          refine tt_iconst (nI 1) dX6_permits_86 rfl ?_
          refine tt_ld1 dX6_permits_87 hM (by omega) ?_
          refine tt_iload_n dX6_permits_88 rfl ?_
          refine tt_imul dX6_permits_89 ?_
          refine tt_fVv (c_X6_charges hM _ _ _ _ _ _ n0 c _ (by omega) hc (by rw [pk_un (by omega)]; exact hcu)) dX6_permits_90 vX6_43 rfl rfl hM.1 (by decide) rfl (by decide) ⟨rfl, rfl⟩ (Nat.zero_le _) (Nat.zero_le _) (Nat.le_of_ble_eq_true rfl) ?_
          refine tt_iload_n dX6_permits_93 rfl ?_
          refine tt_iload_n dX6_permits_94 rfl ?_
          refine tt_iadd dX6_permits_95 ?_
          exact tt_ireturn dX6_permits_96 rfl rfl (Nat.zero_le _) (Nat.zero_le _) ⟨by first | (unfold sPe; rw [if_neg c_5]; first | done | rfl) | (unfold sPe; rw [if_pos c_5, if_neg c_17]; first | done | rfl) | (unfold sPe; rw [if_pos c_5, if_pos c_17, hq0, if_neg c_28]; first | done | rfl) | (unfold sPe; rw [if_pos c_5, if_pos c_17, hq0, if_pos c_28, hqc]; first | done | rfl), by first | (unfold sPe; rw [if_neg c_5]; first | done | rfl) | (unfold sPe; rw [if_pos c_5, if_neg c_17]; first | done | rfl) | (unfold sPe; rw [if_pos c_5, if_pos c_17, hq0, if_neg c_28]; first | done | rfl) | (unfold sPe; rw [if_pos c_5, if_pos c_17, hq0, if_pos c_28, hqc]; first | done | rfl)⟩
        · refine tt_if_eqB (tgt := 56) dX6_permits_39 (by decide) (fun c_39 => ?_) (fun c_39 => ?_)
          · refine tt_aload_n dX6_permits_56 rfl ?_
            refine tt_mA (b := 182) dX6_permits_57 fX6_7 rfl hM hM.2.1 ?_
            refine tt_bipush (nI 8) dX6_permits_60 rfl ?_
            refine tt_ld1 dX6_permits_62 hM (by omega) ?_
            refine tt_iconst (nI 1) dX6_permits_63 rfl ?_
            refine tt_isub dX6_permits_64 ?_
            exact key_65 _ (by first | exact (if_pos (by assumption)).symm | exact (if_neg (by assumption)).symm | simp_all)
          · refine tt_aload_n dX6_permits_42 rfl ?_
            refine tt_mA (b := 182) dX6_permits_43 fX6_7 rfl hM hM.2.1 ?_
            refine tt_iload_n dX6_permits_46 rfl ?_
            refine tt_bipush (nI 6) dX6_permits_47 rfl ?_
            refine tt_fSi (c_X6_of _ _ _) dX6_permits_49 sX6_29 rfl rfl (by decide) ⟨rfl, rfl⟩ (Nat.zero_le _) (Nat.zero_le _) (Nat.le_of_ble_eq_true rfl) ?_
            refine tt_ld1 dX6_permits_52 hM (by omega) ?_
            refine tt_goto (tgt := 65) dX6_permits_53 (by decide) ?_
            exact key_65 _ (by first | exact (if_pos (by assumption)).symm | exact (if_neg (by assumption)).symm | simp_all)
      · refine tt_bipush (-5) dX6_permits_31 rfl ?_
        exact tt_ireturn dX6_permits_33 rfl rfl (Nat.zero_le _) (Nat.zero_le _) ⟨by first | (unfold sPe; rw [if_neg c_5]; first | done | rfl) | (unfold sPe; rw [if_pos c_5, if_neg c_17]; first | done | rfl) | (unfold sPe; rw [if_pos c_5, if_pos c_17, hq0, if_neg c_28]; first | done | rfl) | (unfold sPe; rw [if_pos c_5, if_pos c_17, hq0, if_pos c_28, hqc]; first | done | rfl), by first | (unfold sPe; rw [if_neg c_5]; first | done | rfl) | (unfold sPe; rw [if_pos c_5, if_neg c_17]; first | done | rfl) | (unfold sPe; rw [if_pos c_5, if_pos c_17, hq0, if_neg c_28]; first | done | rfl) | (unfold sPe; rw [if_pos c_5, if_pos c_17, hq0, if_pos c_28, hqc]; first | done | rfl)⟩
    · refine tt_bipush (-2) dX6_permits_20 rfl ?_
      exact tt_ireturn dX6_permits_22 rfl rfl (Nat.zero_le _) (Nat.zero_le _) ⟨by first | (unfold sPe; rw [if_neg c_5]; first | done | rfl) | (unfold sPe; rw [if_pos c_5, if_neg c_17]; first | done | rfl) | (unfold sPe; rw [if_pos c_5, if_pos c_17, hq0, if_neg c_28]; first | done | rfl) | (unfold sPe; rw [if_pos c_5, if_pos c_17, hq0, if_pos c_28, hqc]; first | done | rfl), by first | (unfold sPe; rw [if_neg c_5]; first | done | rfl) | (unfold sPe; rw [if_pos c_5, if_neg c_17]; first | done | rfl) | (unfold sPe; rw [if_pos c_5, if_pos c_17, hq0, if_neg c_28]; first | done | rfl) | (unfold sPe; rw [if_pos c_5, if_pos c_17, hq0, if_pos c_28, hqc]; first | done | rfl)⟩
  · refine tt_iconst (-1) dX6_permits_8 rfl ?_
    exact tt_ireturn dX6_permits_9 rfl rfl (Nat.zero_le _) (Nat.zero_le _) ⟨by first | (unfold sPe; rw [if_neg c_5]; first | done | rfl) | (unfold sPe; rw [if_pos c_5, if_neg c_17]; first | done | rfl) | (unfold sPe; rw [if_pos c_5, if_pos c_17, hq0, if_neg c_28]; first | done | rfl) | (unfold sPe; rw [if_pos c_5, if_pos c_17, hq0, if_pos c_28, hqc]; first | done | rfl), by first | (unfold sPe; rw [if_neg c_5]; first | done | rfl) | (unfold sPe; rw [if_pos c_5, if_neg c_17]; first | done | rfl) | (unfold sPe; rw [if_pos c_5, if_pos c_17, hq0, if_neg c_28]; first | done | rfl) | (unfold sPe; rw [if_pos c_5, if_pos c_17, hq0, if_pos c_28, hqc]; first | done | rfl)⟩
theorem sSw_nn {s : Nat → Int32} {n : Nat} {v : Int32} (hw : sWF s n) (h : ¬ (sSw s v).1 < 0) : nI 0 ≤ v ∧ v ≤ s 33 - nI 1 := by
  by_cases q : nI 0 ≤ v ∧ v ≤ s 33 - nI 1
  · exact q
  · exfalso
    unfold sSw at h
    rw [if_neg q] at h
    exact h (show (-1 : Int32) < 0 by decide)
set_option maxRecDepth 100000 in
set_option maxHeartbeats 4000000 in
theorem c_X6_takes {h : zhp} (hM : zMo h) (F s a t l p : Nat → Int32) (n : Nat) (hw : sWF s n) (v : Int32) : MM iX6_takes [.ref 181, .int v] (zm h F s a t l p) (zfi (sTk s v).1 (zm h F (sTk s v).2 a t l p)) := by
  refine MM_of (by decide +kernel) (Nat.le_of_ble_eq_true rfl) ?_
  refine tt_aload_n dX6_takes_0 rfl ?_
  refine tt_iload_n dX6_takes_1 rfl ?_
  refine tt_fVi (c_X6_swaps hM _ _ _ _ _ _ n hw _) dX6_takes_2 vX6_90 rfl rfl hM.1 (by decide) rfl (by decide) ⟨rfl, rfl⟩ (Nat.zero_le _) (Nat.zero_le _) (Nat.le_of_ble_eq_true rfl) ?_
  refine tt_istore_n dX6_takes_5 rfl (Nat.le_of_ble_eq_true rfl) rfl ?_
  refine tt_iload_n dX6_takes_6 rfl ?_
  refine tt_if_lt (tgt := 58) dX6_takes_7 (by decide) (fun c_7 => ?_) (fun c_7 => ?_)
  · refine tt_iload_n dX6_takes_58 rfl ?_
    exact tt_ireturn dX6_takes_59 rfl rfl (Nat.zero_le _) (Nat.zero_le _) ⟨by first | (unfold sTk; rw [if_pos c_7]; first | done | rfl) | (unfold sTk; rw [if_neg c_7]; first | done | rfl), by first | (unfold sTk; rw [if_pos c_7]; first | done | rfl) | (unfold sTk; rw [if_neg c_7, hq0]; first | done | rfl)⟩
  · obtain ⟨n0, hn0, rfl⟩ := zskip hw.1 hw.2.1 (sSw_nn hw c_7)
    have hn10 := hw.1
    have hq0 : (nI n0).toNatClampNeg = n0 := nI_clamp (by omega)
    refine tt_iload_n dX6_takes_10 rfl ?_
    refine tt_iconst (nI 0) dX6_takes_11 rfl ?_
    refine tt_fSi (c_X6_of _ _ _) dX6_takes_12 sX6_29 rfl rfl (by decide) ⟨rfl, rfl⟩ (Nat.zero_le _) (Nat.zero_le _) (Nat.le_of_ble_eq_true rfl) ?_
    refine tt_istore_n dX6_takes_15 rfl (Nat.le_of_ble_eq_true rfl) rfl ?_
    skip
    refine tt_loop (fun k x => upd x (34 + 10 * n0 + 0 + k) (x (34 + 10 * n0 + 0 + k + 10))) (90 - 10 * n0) (fun _ _ => True) (fun k x => [some (.ref 181), some (.int (nI n0)), some (.int (sSw s (nI n0)).1), some (.int (nI (34 + 10 * n0 + 0 + k)))]) (fun _ x => zm h F x a t l p) (sSw s (nI n0)).2 trivial (fun _ _ _ _ => trivial) (fun hx => ?_) (fun k x hk hI ih => ?_)
    · skip
      refine tt_iload_n dX6_takes_16 rfl ?_
      refine tt_bipush (nI 9) dX6_takes_17 rfl ?_
      refine tt_iconst (nI 0) dX6_takes_19 rfl ?_
      refine tt_fSi (c_X6_of _ _ _) dX6_takes_20 sX6_29 rfl rfl (by decide) ⟨rfl, rfl⟩ (Nat.zero_le _) (Nat.zero_le _) (Nat.le_of_ble_eq_true rfl) ?_
      refine tt_icmp_geN (tgt := 47) dX6_takes_23 (by decide) (by omega) (by omega) (fun c_23 => ?_) (fun c_23 => ?_)
      · refine tt_aload_n dX6_takes_47 rfl ?_
        refine tt_mA (b := 182) dX6_takes_48 fX6_7 rfl hM hM.2.1 ?_
        refine tt_bipush (nI 33) dX6_takes_51 rfl ?_
        refine tt_dup2 dX6_takes_53 rfl rfl ?_
        refine tt_ld1 dX6_takes_54 hM (by omega) ?_
        refine tt_iconst (nI 1) dX6_takes_55 rfl ?_
        refine tt_isub dX6_takes_56 ?_
        refine tt_st1 dX6_takes_57 hM (by omega) ?_
        refine tt_iload_n dX6_takes_58 rfl ?_
        exact tt_ireturn dX6_takes_59 rfl rfl (Nat.zero_le _) (Nat.zero_le _) ⟨by first | (unfold sTk; rw [if_pos c_7]; first | done | rfl) | (unfold sTk; rw [if_neg c_7]; first | done | rfl), by first | (unfold sTk; rw [if_pos c_7]; first | done | rfl) | (unfold sTk; rw [if_neg c_7, hq0]; first | done | rfl)⟩
      · exact absurd c_23 (by omega)
    · skip
      refine tt_iload_n dX6_takes_16 rfl ?_
      refine tt_bipush (nI 9) dX6_takes_17 rfl ?_
      refine tt_iconst (nI 0) dX6_takes_19 rfl ?_
      refine tt_fSi (c_X6_of _ _ _) dX6_takes_20 sX6_29 rfl rfl (by decide) ⟨rfl, rfl⟩ (Nat.zero_le _) (Nat.zero_le _) (Nat.le_of_ble_eq_true rfl) ?_
      refine tt_icmp_geN (tgt := 47) dX6_takes_23 (by decide) (by omega) (by omega) (fun c_23 => ?_) (fun c_23 => ?_)
      · exact absurd c_23 (by omega)
      · refine tt_aload_n dX6_takes_26 rfl ?_
        refine tt_mA (b := 182) dX6_takes_27 fX6_7 rfl hM hM.2.1 ?_
        refine tt_iload_n dX6_takes_30 rfl ?_
        refine tt_aload_n dX6_takes_31 rfl ?_
        refine tt_mA (b := 182) dX6_takes_32 fX6_7 rfl hM hM.2.1 ?_
        refine tt_iload_n dX6_takes_35 rfl ?_
        refine tt_bipush (nI 10) dX6_takes_36 rfl ?_
        refine tt_iaddN dX6_takes_38 ?_
        refine tt_ld1 dX6_takes_39 hM (by omega) ?_
        refine tt_st1 dX6_takes_40 hM (by omega) ?_
        refine tt_iincN dX6_takes_41 rfl rfl (Nat.le_of_ble_eq_true rfl) rfl ?_
        refine tt_goto (tgt := 16) dX6_takes_44 (by decide) ?_
        exact ih
set_option maxRecDepth 100000 in
set_option maxHeartbeats 4000000 in
theorem c_X6_isPlace {h : zhp} (hM : zMo h) (F s a t l p : Nat → Int32) (n : Nat) (hw : sWF s n) (k : Nat) (hk : k ≤ 5) : MM iX6_isPlace [.ref 181, .int (nI k)] (zm h F s a t l p) (zfi (zb (nI k = nI 5 ∨ sCntSt s n (nI k) < s (10 + k))) (zm h F s a t l p)) := by
  refine MM_of (by decide +kernel) (Nat.le_of_ble_eq_true rfl) ?_
  refine tt_iload_n dX6_isPlace_0 rfl ?_
  refine tt_iconst (nI 5) dX6_isPlace_1 rfl ?_
  refine tt_icmp_eq (tgt := 22) dX6_isPlace_2 (by decide) (fun c_2 => ?_) (fun c_2 => ?_)
  · refine tt_iconst (nI 1) dX6_isPlace_22 rfl ?_
    refine tt_goto (tgt := 27) dX6_isPlace_23 (by decide) ?_
    exact tt_ireturn dX6_isPlace_27 rfl rfl (Nat.zero_le _) (Nat.zero_le _) ⟨by first | exact congrArg (fun z => some (Value.int z)) (if_pos (by first | exact Or.inl (by assumption) | exact Or.inr (Int32.not_le.mp (by assumption)))).symm | exact congrArg (fun z => some (Value.int z)) (if_neg (fun q => q.elim (by assumption) (Int32.not_lt.mpr (by assumption)))).symm, rfl⟩
  · refine tt_aload_n dX6_isPlace_5 rfl ?_
    refine tt_iload_n dX6_isPlace_6 rfl ?_
    refine tt_fVi (c_X6_skipsIn hM _ _ _ _ _ _ n hw _) dX6_isPlace_7 vX6_71 rfl rfl hM.1 (by decide) rfl (by decide) ⟨rfl, rfl⟩ (Nat.zero_le _) (Nat.zero_le _) (Nat.le_of_ble_eq_true rfl) ?_
    refine tt_aload_n dX6_isPlace_10 rfl ?_
    refine tt_mA (b := 182) dX6_isPlace_11 fX6_7 rfl hM hM.2.1 ?_
    refine tt_bipush (nI 10) dX6_isPlace_14 rfl ?_
    refine tt_iload_n dX6_isPlace_16 rfl ?_
    refine tt_iaddN dX6_isPlace_17 ?_
    refine tt_ld1 dX6_isPlace_18 hM (by omega) ?_
    refine tt_icmp_ge (tgt := 26) dX6_isPlace_19 (by decide) (fun c_19 => ?_) (fun c_19 => ?_)
    · refine tt_iconst (nI 0) dX6_isPlace_26 rfl ?_
      exact tt_ireturn dX6_isPlace_27 rfl rfl (Nat.zero_le _) (Nat.zero_le _) ⟨by first | exact congrArg (fun z => some (Value.int z)) (if_pos (by first | exact Or.inl (by assumption) | exact Or.inr (Int32.not_le.mp (by assumption)))).symm | exact congrArg (fun z => some (Value.int z)) (if_neg (fun q => q.elim (by assumption) (Int32.not_lt.mpr (by assumption)))).symm, rfl⟩
    · refine tt_iconst (nI 1) dX6_isPlace_22 rfl ?_
      refine tt_goto (tgt := 27) dX6_isPlace_23 (by decide) ?_
      exact tt_ireturn dX6_isPlace_27 rfl rfl (Nat.zero_le _) (Nat.zero_le _) ⟨by first | exact congrArg (fun z => some (Value.int z)) (if_pos (by first | exact Or.inl (by assumption) | exact Or.inr (Int32.not_le.mp (by assumption)))).symm | exact congrArg (fun z => some (Value.int z)) (if_neg (fun q => q.elim (by assumption) (Int32.not_lt.mpr (by assumption)))).symm, rfl⟩
set_option maxRecDepth 100000 in
set_option maxHeartbeats 4000000 in
theorem c_X6_puts {h : zhp} (hM : zMo h) (F s a t l p : Nat → Int32) (n : Nat) (hw : sWF s n) (cu z stt g : Int32) : MM iX6_puts [.ref 181, .int cu, .int z, .int stt, .int g] (zm h F s a t l p) (zfi (sPuts s n cu z stt g).1 (zm h F (sPuts s n cu z stt g).2 a t l p)) := by
  refine MM_of (by decide +kernel) (Nat.le_of_ble_eq_true rfl) ?_
  refine tt_iload_n dX6_puts_0 rfl ?_
  refine tt_fSi (c_X6_isCustomer _ _) dX6_puts_1 sX6_74 rfl rfl (by decide) ⟨rfl, rfl⟩ (Nat.zero_le _) (Nat.zero_le _) (Nat.le_of_ble_eq_true rfl) ?_
  refine tt_if_eqB (tgt := 16) dX6_puts_4 (by decide) (fun c_4 => ?_) (fun c_4 => ?_)
  · refine tt_iconst (-1) dX6_puts_16 rfl ?_
    exact tt_ireturn dX6_puts_17 rfl rfl (Nat.zero_le _) (Nat.zero_le _) ⟨by first | (unfold sPuts; rw [if_neg (fun q => c_4 q.1)]; first | done | rfl) | (unfold sPuts; rw [if_neg (fun q => c_13 q.2)]; first | done | rfl) | (unfold sPuts; rw [if_pos ⟨c_4, c_13⟩, if_neg (fun q => c_24 q.1)]; first | done | rfl) | (unfold sPuts; rw [if_pos ⟨c_4, c_13⟩, if_neg (fun q => c_35 q.2)]; first | done | rfl) | (unfold sPuts; rw [if_pos ⟨c_4, c_13⟩, if_pos ⟨c_24, c_35⟩, hqs, if_neg (fun q => c_46 q.1)]; first | done | rfl) | (unfold sPuts; rw [if_pos ⟨c_4, c_13⟩, if_pos ⟨c_24, c_35⟩, hqs, if_neg (fun q => q.2 c_53)]; first | done | rfl) | (unfold sPuts; rw [if_pos ⟨c_4, c_13⟩, if_pos ⟨c_24, c_35⟩, hqs, if_pos ⟨c_46, c_53⟩, if_pos c_68]; first | done | rfl) | (unfold sPuts; rw [if_pos ⟨c_4, c_13⟩, if_pos ⟨c_24, c_35⟩, hqs, if_pos ⟨c_46, c_53⟩, if_neg c_68, hqc]; first | done | rfl), by first | (unfold sPuts; rw [if_neg (fun q => c_4 q.1)]; first | done | rfl) | (unfold sPuts; rw [if_neg (fun q => c_13 q.2)]; first | done | rfl) | (unfold sPuts; rw [if_pos ⟨c_4, c_13⟩, if_neg (fun q => c_24 q.1)]; first | done | rfl) | (unfold sPuts; rw [if_pos ⟨c_4, c_13⟩, if_neg (fun q => c_35 q.2)]; first | done | rfl) | (unfold sPuts; rw [if_pos ⟨c_4, c_13⟩, if_pos ⟨c_24, c_35⟩, hqs, if_neg (fun q => c_46 q.1)]; first | done | rfl) | (unfold sPuts; rw [if_pos ⟨c_4, c_13⟩, if_pos ⟨c_24, c_35⟩, hqs, if_neg (fun q => q.2 c_53)]; first | done | rfl) | (unfold sPuts; rw [if_pos ⟨c_4, c_13⟩, if_pos ⟨c_24, c_35⟩, hqs, if_pos ⟨c_46, c_53⟩, if_pos c_68]; first | done | rfl) | (unfold sPuts; rw [if_pos ⟨c_4, c_13⟩, if_pos ⟨c_24, c_35⟩, hqs, if_pos ⟨c_46, c_53⟩, if_neg c_68, hqc]; first | done | rfl)⟩
  · refine tt_iload_n dX6_puts_7 rfl ?_
    refine tt_iconst (nI 0) dX6_puts_8 rfl ?_
    refine tt_iconst (nI 5) dX6_puts_9 rfl ?_
    refine tt_fSi (c_X6_in _ _ _ _) dX6_puts_10 sX6_25 rfl rfl (by decide) ⟨rfl, rfl⟩ (Nat.zero_le _) (Nat.zero_le _) (Nat.le_of_ble_eq_true rfl) ?_
    refine tt_if_neB (tgt := 18) dX6_puts_13 (by decide) (fun c_13 => ?_) (fun c_13 => ?_)
    · refine tt_iload_n dX6_puts_18 rfl ?_
      refine tt_iconst (nI 0) dX6_puts_19 rfl ?_
      refine tt_iconst (nI 3) dX6_puts_20 rfl ?_
      refine tt_fSi (c_X6_in _ _ _ _) dX6_puts_21 sX6_25 rfl rfl (by decide) ⟨rfl, rfl⟩ (Nat.zero_le _) (Nat.zero_le _) (Nat.le_of_ble_eq_true rfl) ?_
      refine tt_if_eqB (tgt := 38) dX6_puts_24 (by decide) (fun c_24 => ?_) (fun c_24 => ?_)
      · refine tt_bipush (-2) dX6_puts_38 rfl ?_
        exact tt_ireturn dX6_puts_40 rfl rfl (Nat.zero_le _) (Nat.zero_le _) ⟨by first | (unfold sPuts; rw [if_neg (fun q => c_4 q.1)]; first | done | rfl) | (unfold sPuts; rw [if_neg (fun q => c_13 q.2)]; first | done | rfl) | (unfold sPuts; rw [if_pos ⟨c_4, c_13⟩, if_neg (fun q => c_24 q.1)]; first | done | rfl) | (unfold sPuts; rw [if_pos ⟨c_4, c_13⟩, if_neg (fun q => c_35 q.2)]; first | done | rfl) | (unfold sPuts; rw [if_pos ⟨c_4, c_13⟩, if_pos ⟨c_24, c_35⟩, hqs, if_neg (fun q => c_46 q.1)]; first | done | rfl) | (unfold sPuts; rw [if_pos ⟨c_4, c_13⟩, if_pos ⟨c_24, c_35⟩, hqs, if_neg (fun q => q.2 c_53)]; first | done | rfl) | (unfold sPuts; rw [if_pos ⟨c_4, c_13⟩, if_pos ⟨c_24, c_35⟩, hqs, if_pos ⟨c_46, c_53⟩, if_pos c_68]; first | done | rfl) | (unfold sPuts; rw [if_pos ⟨c_4, c_13⟩, if_pos ⟨c_24, c_35⟩, hqs, if_pos ⟨c_46, c_53⟩, if_neg c_68, hqc]; first | done | rfl), by first | (unfold sPuts; rw [if_neg (fun q => c_4 q.1)]; first | done | rfl) | (unfold sPuts; rw [if_neg (fun q => c_13 q.2)]; first | done | rfl) | (unfold sPuts; rw [if_pos ⟨c_4, c_13⟩, if_neg (fun q => c_24 q.1)]; first | done | rfl) | (unfold sPuts; rw [if_pos ⟨c_4, c_13⟩, if_neg (fun q => c_35 q.2)]; first | done | rfl) | (unfold sPuts; rw [if_pos ⟨c_4, c_13⟩, if_pos ⟨c_24, c_35⟩, hqs, if_neg (fun q => c_46 q.1)]; first | done | rfl) | (unfold sPuts; rw [if_pos ⟨c_4, c_13⟩, if_pos ⟨c_24, c_35⟩, hqs, if_neg (fun q => q.2 c_53)]; first | done | rfl) | (unfold sPuts; rw [if_pos ⟨c_4, c_13⟩, if_pos ⟨c_24, c_35⟩, hqs, if_pos ⟨c_46, c_53⟩, if_pos c_68]; first | done | rfl) | (unfold sPuts; rw [if_pos ⟨c_4, c_13⟩, if_pos ⟨c_24, c_35⟩, hqs, if_pos ⟨c_46, c_53⟩, if_neg c_68, hqc]; first | done | rfl)⟩
      · refine tt_iload dX6_puts_27 rfl ?_
        refine tt_iconst (nI 0) dX6_puts_29 rfl ?_
        refine tt_bipush (nI 30) dX6_puts_30 rfl ?_
        refine tt_fSi (c_X6_in _ _ _ _) dX6_puts_32 sX6_25 rfl rfl (by decide) ⟨rfl, rfl⟩ (Nat.zero_le _) (Nat.zero_le _) (Nat.le_of_ble_eq_true rfl) ?_
        refine tt_if_neB (tgt := 41) dX6_puts_35 (by decide) (fun c_35 => ?_) (fun c_35 => ?_)
        · obtain ⟨c, hc5, rfl⟩ := zrng (by omega) c_4
          obtain ⟨k0, hk0, rfl⟩ := zrng (by omega) c_13
          have hqc : (nI c).toNatClampNeg = c := nI_clamp (by omega)
          have hqs : (nI k0).toNatClampNeg = k0 := nI_clamp (by omega)
          have hn10 := hw.1
          refine tt_aload_n dX6_puts_41 rfl ?_
          refine tt_iload_n dX6_puts_42 rfl ?_
          refine tt_fVi (c_X6_isPlace hM _ _ _ _ _ _ n hw _ (by omega)) dX6_puts_43 vX6_77 rfl rfl hM.1 (by decide) rfl (by decide) ⟨rfl, rfl⟩ (Nat.zero_le _) (Nat.zero_le _) (Nat.le_of_ble_eq_true rfl) ?_
          refine tt_if_eqB (tgt := 56) dX6_puts_46 (by decide) (fun c_46 => ?_) (fun c_46 => ?_)
          · refine tt_bipush (-5) dX6_puts_56 rfl ?_
            exact tt_ireturn dX6_puts_58 rfl rfl (Nat.zero_le _) (Nat.zero_le _) ⟨by first | (unfold sPuts; rw [if_neg (fun q => c_4 q.1)]; first | done | rfl) | (unfold sPuts; rw [if_neg (fun q => c_13 q.2)]; first | done | rfl) | (unfold sPuts; rw [if_pos ⟨c_4, c_13⟩, if_neg (fun q => c_24 q.1)]; first | done | rfl) | (unfold sPuts; rw [if_pos ⟨c_4, c_13⟩, if_neg (fun q => c_35 q.2)]; first | done | rfl) | (unfold sPuts; rw [if_pos ⟨c_4, c_13⟩, if_pos ⟨c_24, c_35⟩, hqs, if_neg (fun q => c_46 q.1)]; first | done | rfl) | (unfold sPuts; rw [if_pos ⟨c_4, c_13⟩, if_pos ⟨c_24, c_35⟩, hqs, if_neg (fun q => q.2 c_53)]; first | done | rfl) | (unfold sPuts; rw [if_pos ⟨c_4, c_13⟩, if_pos ⟨c_24, c_35⟩, hqs, if_pos ⟨c_46, c_53⟩, if_pos c_68]; first | done | rfl) | (unfold sPuts; rw [if_pos ⟨c_4, c_13⟩, if_pos ⟨c_24, c_35⟩, hqs, if_pos ⟨c_46, c_53⟩, if_neg c_68, hqc]; first | done | rfl), by first | (unfold sPuts; rw [if_neg (fun q => c_4 q.1)]; first | done | rfl) | (unfold sPuts; rw [if_neg (fun q => c_13 q.2)]; first | done | rfl) | (unfold sPuts; rw [if_pos ⟨c_4, c_13⟩, if_neg (fun q => c_24 q.1)]; first | done | rfl) | (unfold sPuts; rw [if_pos ⟨c_4, c_13⟩, if_neg (fun q => c_35 q.2)]; first | done | rfl) | (unfold sPuts; rw [if_pos ⟨c_4, c_13⟩, if_pos ⟨c_24, c_35⟩, hqs, if_neg (fun q => c_46 q.1)]; first | done | rfl) | (unfold sPuts; rw [if_pos ⟨c_4, c_13⟩, if_pos ⟨c_24, c_35⟩, hqs, if_neg (fun q => q.2 c_53)]; first | done | rfl) | (unfold sPuts; rw [if_pos ⟨c_4, c_13⟩, if_pos ⟨c_24, c_35⟩, hqs, if_pos ⟨c_46, c_53⟩, if_pos c_68]; first | done | rfl) | (unfold sPuts; rw [if_pos ⟨c_4, c_13⟩, if_pos ⟨c_24, c_35⟩, hqs, if_pos ⟨c_46, c_53⟩, if_neg c_68, hqc]; first | done | rfl)⟩
          · refine tt_aload_n dX6_puts_49 rfl ?_
            refine tt_fVi (c_X6_tripsLeft hM _ _ _ _ _ _) dX6_puts_50 vX6_80 rfl rfl hM.1 (by decide) rfl (by decide) ⟨rfl, rfl⟩ (Nat.zero_le _) (Nat.zero_le _) (Nat.le_of_ble_eq_true rfl) ?_
            refine tt_if_ne (tgt := 59) dX6_puts_53 (by decide) (fun c_53 => ?_) (fun c_53 => ?_)
            · refine tt_aload_n dX6_puts_59 rfl ?_
              refine tt_mA (b := 182) dX6_puts_60 fX6_7 rfl hM hM.2.1 ?_
              refine tt_bipush (nI 33) dX6_puts_63 rfl ?_
              refine tt_ld1 dX6_puts_65 hM (by omega) ?_
              refine tt_bipush (nI 10) dX6_puts_66 rfl ?_
              refine tt_icmp_ne (tgt := 74) dX6_puts_68 (by decide) (fun c_68 => ?_) (fun c_68 => ?_)
              · have hn9 : n < 10 := by
                  rcases Nat.lt_or_ge n 10 with q | q
                  · exact q
                  · exact absurd (by rw [hw.2.1, show n = 10 by omega]) c_68
                refine tt_aload_n dX6_puts_74 rfl ?_
                refine tt_mA (b := 182) dX6_puts_75 fX6_7 rfl hM hM.2.1 ?_
                refine tt_bipush (nI 33) dX6_puts_78 rfl ?_
                refine tt_ld1 dX6_puts_80 hM (by omega) ?_
                refine tt_eq hw.2.1 ?_
                refine tt_istore dX6_puts_81 rfl (Nat.le_of_ble_eq_true rfl) rfl ?_
                refine tt_aload_n dX6_puts_83 rfl ?_
                refine tt_mA (b := 182) dX6_puts_84 fX6_7 rfl hM hM.2.1 ?_
                refine tt_bipush (nI 33) dX6_puts_87 rfl ?_
                refine tt_dup2 dX6_puts_89 rfl rfl ?_
                refine tt_ld1 dX6_puts_90 hM (by omega) ?_
                refine tt_iconst (nI 1) dX6_puts_91 rfl ?_
                refine tt_iadd dX6_puts_92 ?_
                refine tt_st1 dX6_puts_93 hM (by omega) ?_
                refine tt_iconst (nI 0) dX6_puts_94 rfl ?_
                refine tt_istore dX6_puts_95 rfl (Nat.le_of_ble_eq_true rfl) rfl ?_
                refine tt_loop (fun w x => upd x (34 + 10 * n + w) (nI 0)) 10 (fun _ _ => True) (fun k x => [some (.ref 181), some (.int (nI c)), some (.int z), some (.int (nI k0)), some (.int g), some (.int (nI n)), some (.int (nI k))]) (fun _ x => zm h F x a t l p) (upd s 33 (s 33 + nI 1)) trivial (fun _ _ _ _ => trivial) (fun hx => ?_) (fun k x hk hI ih => ?_)
                · refine tt_iload dX6_puts_97 rfl ?_
                  refine tt_bipush (nI 10) dX6_puts_99 rfl ?_
                  refine tt_icmp_geN (tgt := 123) dX6_puts_101 (by decide) (by omega) (by omega) (fun c_101 => ?_) (fun c_101 => ?_)
                  · refine tt_aload_n dX6_puts_123 rfl ?_
                    refine tt_mA (b := 182) dX6_puts_124 fX6_7 rfl hM hM.2.1 ?_
                    refine tt_iload dX6_puts_127 rfl ?_
                    refine tt_iconst (nI 0) dX6_puts_129 rfl ?_
                    refine tt_fSi (c_X6_of _ _ _) dX6_puts_130 sX6_29 rfl rfl (by decide) ⟨rfl, rfl⟩ (Nat.zero_le _) (Nat.zero_le _) (Nat.le_of_ble_eq_true rfl) ?_
                    refine tt_iload_n dX6_puts_133 rfl ?_
                    refine tt_st1 dX6_puts_134 hM (by omega) ?_
                    refine tt_aload_n dX6_puts_135 rfl ?_
                    refine tt_mA (b := 182) dX6_puts_136 fX6_7 rfl hM hM.2.1 ?_
                    refine tt_iload dX6_puts_139 rfl ?_
                    refine tt_iconst (nI 1) dX6_puts_141 rfl ?_
                    refine tt_fSi (c_X6_of _ _ _) dX6_puts_142 sX6_29 rfl rfl (by decide) ⟨rfl, rfl⟩ (Nat.zero_le _) (Nat.zero_le _) (Nat.le_of_ble_eq_true rfl) ?_
                    refine tt_iload_n dX6_puts_145 rfl ?_
                    refine tt_st1 dX6_puts_146 hM (by omega) ?_
                    refine tt_aload_n dX6_puts_147 rfl ?_
                    refine tt_mA (b := 182) dX6_puts_148 fX6_7 rfl hM hM.2.1 ?_
                    refine tt_iload dX6_puts_151 rfl ?_
                    refine tt_iconst (nI 2) dX6_puts_153 rfl ?_
                    refine tt_fSi (c_X6_of _ _ _) dX6_puts_154 sX6_29 rfl rfl (by decide) ⟨rfl, rfl⟩ (Nat.zero_le _) (Nat.zero_le _) (Nat.le_of_ble_eq_true rfl) ?_
                    refine tt_iload_n dX6_puts_157 rfl ?_
                    refine tt_st1 dX6_puts_158 hM (by omega) ?_
                    refine tt_aload_n dX6_puts_159 rfl ?_
                    refine tt_mA (b := 182) dX6_puts_160 fX6_7 rfl hM hM.2.1 ?_
                    refine tt_iload dX6_puts_163 rfl ?_
                    refine tt_iconst (nI 4) dX6_puts_165 rfl ?_
                    refine tt_fSi (c_X6_of _ _ _) dX6_puts_166 sX6_29 rfl rfl (by decide) ⟨rfl, rfl⟩ (Nat.zero_le _) (Nat.zero_le _) (Nat.le_of_ble_eq_true rfl) ?_
                    refine tt_iload dX6_puts_169 rfl ?_
                    refine tt_st1 dX6_puts_171 hM (by omega) ?_
                    refine tt_aload_n dX6_puts_172 rfl ?_
                    refine tt_mA (b := 182) dX6_puts_173 fX6_7 rfl hM hM.2.1 ?_
                    refine tt_iload dX6_puts_176 rfl ?_
                    refine tt_iconst (nI 5) dX6_puts_178 rfl ?_
                    refine tt_fSi (c_X6_of _ _ _) dX6_puts_179 sX6_29 rfl rfl (by decide) ⟨rfl, rfl⟩ (Nat.zero_le _) (Nat.zero_le _) (Nat.le_of_ble_eq_true rfl) ?_
                    refine tt_aload_n dX6_puts_182 rfl ?_
                    refine tt_mA (b := 182) dX6_puts_183 fX6_7 rfl hM hM.2.1 ?_
                    refine tt_bipush (nI 6) dX6_puts_186 rfl ?_
                    refine tt_ld1 dX6_puts_188 hM (by omega) ?_
                    refine tt_st1 dX6_puts_189 hM (by omega) ?_
                    refine tt_aload_n dX6_puts_190 rfl ?_
                    refine tt_mA (b := 182) dX6_puts_191 fX6_7 rfl hM hM.2.1 ?_
                    refine tt_iload dX6_puts_194 rfl ?_
                    refine tt_bipush (nI 6) dX6_puts_196 rfl ?_
                    refine tt_fSi (c_X6_of _ _ _) dX6_puts_198 sX6_29 rfl rfl (by decide) ⟨rfl, rfl⟩ (Nat.zero_le _) (Nat.zero_le _) (Nat.le_of_ble_eq_true rfl) ?_
                    refine tt_bipush (-6) dX6_puts_201 rfl ?_
                    refine tt_st1 dX6_puts_203 hM (by omega) ?_
                    refine tt_aload_n dX6_puts_204 rfl ?_
                    refine tt_mA (b := 182) dX6_puts_205 fX6_7 rfl hM hM.2.1 ?_
                    refine tt_iload dX6_puts_208 rfl ?_
                    refine tt_bipush (nI 8) dX6_puts_210 rfl ?_
                    refine tt_fSi (c_X6_of _ _ _) dX6_puts_212 sX6_29 rfl rfl (by decide) ⟨rfl, rfl⟩ (Nat.zero_le _) (Nat.zero_le _) (Nat.le_of_ble_eq_true rfl) ?_
                    refine tt_aload_n dX6_puts_215 rfl ?_
                    refine tt_mA (b := 182) dX6_puts_216 fX6_7 rfl hM hM.2.1 ?_
                    refine tt_bipush (nI 8) dX6_puts_219 rfl ?_
                    refine tt_ld1 dX6_puts_221 hM (by omega) ?_
                    refine tt_st1 dX6_puts_222 hM (by omega) ?_
                    refine tt_aload_n dX6_puts_223 rfl ?_
                    refine tt_mA (b := 182) dX6_puts_224 fX6_7 rfl hM hM.2.1 ?_
                    refine tt_bipush (nI 9) dX6_puts_227 rfl ?_
                    refine tt_dup2 dX6_puts_229 rfl rfl ?_
                    refine tt_ld1 dX6_puts_230 hM (by omega) ?_
                    refine tt_iconst (nI 1) dX6_puts_231 rfl ?_
                    refine tt_iadd dX6_puts_232 ?_
                    refine tt_st1 dX6_puts_233 hM (by omega) ?_
                    refine tt_aload_n dX6_puts_234 rfl ?_
                    refine tt_iload dX6_puts_235 rfl ?_
                    refine tt_aload_n dX6_puts_237 rfl ?_
                    refine tt_mA (b := 182) dX6_puts_238 fX6_7 rfl hM hM.2.1 ?_
                    refine tt_iconst (nI 5) dX6_puts_241 rfl ?_
                    refine tt_ld1 dX6_puts_242 hM (by omega) ?_
                    refine tt_fVv (c_X6_charges hM _ _ _ _ _ _ n c _ (by omega) (by omega) (by repeat (first | rw [pk_us] | rw [pk_un (by omega)]))) dX6_puts_243 vX6_43 rfl rfl hM.1 (by decide) rfl (by decide) ⟨rfl, rfl⟩ (Nat.zero_le _) (Nat.zero_le _) (Nat.le_of_ble_eq_true rfl) ?_
                    refine tt_iload dX6_puts_246 rfl ?_
                    exact tt_ireturn dX6_puts_248 rfl rfl (Nat.zero_le _) (Nat.zero_le _) ⟨by first | (unfold sPuts; rw [if_neg (fun q => c_4 q.1)]; first | done | rfl) | (unfold sPuts; rw [if_neg (fun q => c_13 q.2)]; first | done | rfl) | (unfold sPuts; rw [if_pos ⟨c_4, c_13⟩, if_neg (fun q => c_24 q.1)]; first | done | rfl) | (unfold sPuts; rw [if_pos ⟨c_4, c_13⟩, if_neg (fun q => c_35 q.2)]; first | done | rfl) | (unfold sPuts; rw [if_pos ⟨c_4, c_13⟩, if_pos ⟨c_24, c_35⟩, hqs, if_neg (fun q => c_46 q.1)]; first | done | rfl) | (unfold sPuts; rw [if_pos ⟨c_4, c_13⟩, if_pos ⟨c_24, c_35⟩, hqs, if_neg (fun q => q.2 c_53)]; first | done | rfl) | (unfold sPuts; rw [if_pos ⟨c_4, c_13⟩, if_pos ⟨c_24, c_35⟩, hqs, if_pos ⟨c_46, c_53⟩, if_pos c_68]; first | done | rfl) | (unfold sPuts; rw [if_pos ⟨c_4, c_13⟩, if_pos ⟨c_24, c_35⟩, hqs, if_pos ⟨c_46, c_53⟩, if_neg c_68, hqc]; first | done | rfl), by first | (unfold sPuts; rw [if_neg (fun q => c_4 q.1)]; first | done | rfl) | (unfold sPuts; rw [if_neg (fun q => c_13 q.2)]; first | done | rfl) | (unfold sPuts; rw [if_pos ⟨c_4, c_13⟩, if_neg (fun q => c_24 q.1)]; first | done | rfl) | (unfold sPuts; rw [if_pos ⟨c_4, c_13⟩, if_neg (fun q => c_35 q.2)]; first | done | rfl) | (unfold sPuts; rw [if_pos ⟨c_4, c_13⟩, if_pos ⟨c_24, c_35⟩, hqs, if_neg (fun q => c_46 q.1)]; first | done | rfl) | (unfold sPuts; rw [if_pos ⟨c_4, c_13⟩, if_pos ⟨c_24, c_35⟩, hqs, if_neg (fun q => q.2 c_53)]; first | done | rfl) | (unfold sPuts; rw [if_pos ⟨c_4, c_13⟩, if_pos ⟨c_24, c_35⟩, hqs, if_pos ⟨c_46, c_53⟩, if_pos c_68]; first | done | rfl) | (unfold sPuts; rw [if_pos ⟨c_4, c_13⟩, if_pos ⟨c_24, c_35⟩, hqs, if_pos ⟨c_46, c_53⟩, if_neg c_68, hqc]; first | done | rfl)⟩
                  · exact absurd c_101 (by omega)
                · refine tt_iload dX6_puts_97 rfl ?_
                  refine tt_bipush (nI 10) dX6_puts_99 rfl ?_
                  refine tt_icmp_geN (tgt := 123) dX6_puts_101 (by decide) (by omega) (by omega) (fun c_101 => ?_) (fun c_101 => ?_)
                  · exact absurd c_101 (by omega)
                  · refine tt_aload_n dX6_puts_104 rfl ?_
                    refine tt_mA (b := 182) dX6_puts_105 fX6_7 rfl hM hM.2.1 ?_
                    refine tt_iload dX6_puts_108 rfl ?_
                    refine tt_iload dX6_puts_110 rfl ?_
                    refine tt_fSi (c_X6_of _ _ _) dX6_puts_112 sX6_29 rfl rfl (by decide) ⟨rfl, rfl⟩ (Nat.zero_le _) (Nat.zero_le _) (Nat.le_of_ble_eq_true rfl) ?_
                    refine tt_iconst (nI 0) dX6_puts_115 rfl ?_
                    refine tt_st1 dX6_puts_116 hM (by omega) ?_
                    refine tt_iincN dX6_puts_117 rfl rfl (Nat.le_of_ble_eq_true rfl) rfl ?_
                    refine tt_goto (tgt := 97) dX6_puts_120 (by decide) ?_
                    exact ih
              · refine tt_bipush (-4) dX6_puts_71 rfl ?_
                exact tt_ireturn dX6_puts_73 rfl rfl (Nat.zero_le _) (Nat.zero_le _) ⟨by first | (unfold sPuts; rw [if_neg (fun q => c_4 q.1)]; first | done | rfl) | (unfold sPuts; rw [if_neg (fun q => c_13 q.2)]; first | done | rfl) | (unfold sPuts; rw [if_pos ⟨c_4, c_13⟩, if_neg (fun q => c_24 q.1)]; first | done | rfl) | (unfold sPuts; rw [if_pos ⟨c_4, c_13⟩, if_neg (fun q => c_35 q.2)]; first | done | rfl) | (unfold sPuts; rw [if_pos ⟨c_4, c_13⟩, if_pos ⟨c_24, c_35⟩, hqs, if_neg (fun q => c_46 q.1)]; first | done | rfl) | (unfold sPuts; rw [if_pos ⟨c_4, c_13⟩, if_pos ⟨c_24, c_35⟩, hqs, if_neg (fun q => q.2 c_53)]; first | done | rfl) | (unfold sPuts; rw [if_pos ⟨c_4, c_13⟩, if_pos ⟨c_24, c_35⟩, hqs, if_pos ⟨c_46, c_53⟩, if_pos c_68]; first | done | rfl) | (unfold sPuts; rw [if_pos ⟨c_4, c_13⟩, if_pos ⟨c_24, c_35⟩, hqs, if_pos ⟨c_46, c_53⟩, if_neg c_68, hqc]; first | done | rfl), by first | (unfold sPuts; rw [if_neg (fun q => c_4 q.1)]; first | done | rfl) | (unfold sPuts; rw [if_neg (fun q => c_13 q.2)]; first | done | rfl) | (unfold sPuts; rw [if_pos ⟨c_4, c_13⟩, if_neg (fun q => c_24 q.1)]; first | done | rfl) | (unfold sPuts; rw [if_pos ⟨c_4, c_13⟩, if_neg (fun q => c_35 q.2)]; first | done | rfl) | (unfold sPuts; rw [if_pos ⟨c_4, c_13⟩, if_pos ⟨c_24, c_35⟩, hqs, if_neg (fun q => c_46 q.1)]; first | done | rfl) | (unfold sPuts; rw [if_pos ⟨c_4, c_13⟩, if_pos ⟨c_24, c_35⟩, hqs, if_neg (fun q => q.2 c_53)]; first | done | rfl) | (unfold sPuts; rw [if_pos ⟨c_4, c_13⟩, if_pos ⟨c_24, c_35⟩, hqs, if_pos ⟨c_46, c_53⟩, if_pos c_68]; first | done | rfl) | (unfold sPuts; rw [if_pos ⟨c_4, c_13⟩, if_pos ⟨c_24, c_35⟩, hqs, if_pos ⟨c_46, c_53⟩, if_neg c_68, hqc]; first | done | rfl)⟩
            · refine tt_bipush (-5) dX6_puts_56 rfl ?_
              exact tt_ireturn dX6_puts_58 rfl rfl (Nat.zero_le _) (Nat.zero_le _) ⟨by first | (unfold sPuts; rw [if_neg (fun q => c_4 q.1)]; first | done | rfl) | (unfold sPuts; rw [if_neg (fun q => c_13 q.2)]; first | done | rfl) | (unfold sPuts; rw [if_pos ⟨c_4, c_13⟩, if_neg (fun q => c_24 q.1)]; first | done | rfl) | (unfold sPuts; rw [if_pos ⟨c_4, c_13⟩, if_neg (fun q => c_35 q.2)]; first | done | rfl) | (unfold sPuts; rw [if_pos ⟨c_4, c_13⟩, if_pos ⟨c_24, c_35⟩, hqs, if_neg (fun q => c_46 q.1)]; first | done | rfl) | (unfold sPuts; rw [if_pos ⟨c_4, c_13⟩, if_pos ⟨c_24, c_35⟩, hqs, if_neg (fun q => q.2 c_53)]; first | done | rfl) | (unfold sPuts; rw [if_pos ⟨c_4, c_13⟩, if_pos ⟨c_24, c_35⟩, hqs, if_pos ⟨c_46, c_53⟩, if_pos c_68]; first | done | rfl) | (unfold sPuts; rw [if_pos ⟨c_4, c_13⟩, if_pos ⟨c_24, c_35⟩, hqs, if_pos ⟨c_46, c_53⟩, if_neg c_68, hqc]; first | done | rfl), by first | (unfold sPuts; rw [if_neg (fun q => c_4 q.1)]; first | done | rfl) | (unfold sPuts; rw [if_neg (fun q => c_13 q.2)]; first | done | rfl) | (unfold sPuts; rw [if_pos ⟨c_4, c_13⟩, if_neg (fun q => c_24 q.1)]; first | done | rfl) | (unfold sPuts; rw [if_pos ⟨c_4, c_13⟩, if_neg (fun q => c_35 q.2)]; first | done | rfl) | (unfold sPuts; rw [if_pos ⟨c_4, c_13⟩, if_pos ⟨c_24, c_35⟩, hqs, if_neg (fun q => c_46 q.1)]; first | done | rfl) | (unfold sPuts; rw [if_pos ⟨c_4, c_13⟩, if_pos ⟨c_24, c_35⟩, hqs, if_neg (fun q => q.2 c_53)]; first | done | rfl) | (unfold sPuts; rw [if_pos ⟨c_4, c_13⟩, if_pos ⟨c_24, c_35⟩, hqs, if_pos ⟨c_46, c_53⟩, if_pos c_68]; first | done | rfl) | (unfold sPuts; rw [if_pos ⟨c_4, c_13⟩, if_pos ⟨c_24, c_35⟩, hqs, if_pos ⟨c_46, c_53⟩, if_neg c_68, hqc]; first | done | rfl)⟩
        · refine tt_bipush (-2) dX6_puts_38 rfl ?_
          exact tt_ireturn dX6_puts_40 rfl rfl (Nat.zero_le _) (Nat.zero_le _) ⟨by first | (unfold sPuts; rw [if_neg (fun q => c_4 q.1)]; first | done | rfl) | (unfold sPuts; rw [if_neg (fun q => c_13 q.2)]; first | done | rfl) | (unfold sPuts; rw [if_pos ⟨c_4, c_13⟩, if_neg (fun q => c_24 q.1)]; first | done | rfl) | (unfold sPuts; rw [if_pos ⟨c_4, c_13⟩, if_neg (fun q => c_35 q.2)]; first | done | rfl) | (unfold sPuts; rw [if_pos ⟨c_4, c_13⟩, if_pos ⟨c_24, c_35⟩, hqs, if_neg (fun q => c_46 q.1)]; first | done | rfl) | (unfold sPuts; rw [if_pos ⟨c_4, c_13⟩, if_pos ⟨c_24, c_35⟩, hqs, if_neg (fun q => q.2 c_53)]; first | done | rfl) | (unfold sPuts; rw [if_pos ⟨c_4, c_13⟩, if_pos ⟨c_24, c_35⟩, hqs, if_pos ⟨c_46, c_53⟩, if_pos c_68]; first | done | rfl) | (unfold sPuts; rw [if_pos ⟨c_4, c_13⟩, if_pos ⟨c_24, c_35⟩, hqs, if_pos ⟨c_46, c_53⟩, if_neg c_68, hqc]; first | done | rfl), by first | (unfold sPuts; rw [if_neg (fun q => c_4 q.1)]; first | done | rfl) | (unfold sPuts; rw [if_neg (fun q => c_13 q.2)]; first | done | rfl) | (unfold sPuts; rw [if_pos ⟨c_4, c_13⟩, if_neg (fun q => c_24 q.1)]; first | done | rfl) | (unfold sPuts; rw [if_pos ⟨c_4, c_13⟩, if_neg (fun q => c_35 q.2)]; first | done | rfl) | (unfold sPuts; rw [if_pos ⟨c_4, c_13⟩, if_pos ⟨c_24, c_35⟩, hqs, if_neg (fun q => c_46 q.1)]; first | done | rfl) | (unfold sPuts; rw [if_pos ⟨c_4, c_13⟩, if_pos ⟨c_24, c_35⟩, hqs, if_neg (fun q => q.2 c_53)]; first | done | rfl) | (unfold sPuts; rw [if_pos ⟨c_4, c_13⟩, if_pos ⟨c_24, c_35⟩, hqs, if_pos ⟨c_46, c_53⟩, if_pos c_68]; first | done | rfl) | (unfold sPuts; rw [if_pos ⟨c_4, c_13⟩, if_pos ⟨c_24, c_35⟩, hqs, if_pos ⟨c_46, c_53⟩, if_neg c_68, hqc]; first | done | rfl)⟩
    · refine tt_iconst (-1) dX6_puts_16 rfl ?_
      exact tt_ireturn dX6_puts_17 rfl rfl (Nat.zero_le _) (Nat.zero_le _) ⟨by first | (unfold sPuts; rw [if_neg (fun q => c_4 q.1)]; first | done | rfl) | (unfold sPuts; rw [if_neg (fun q => c_13 q.2)]; first | done | rfl) | (unfold sPuts; rw [if_pos ⟨c_4, c_13⟩, if_neg (fun q => c_24 q.1)]; first | done | rfl) | (unfold sPuts; rw [if_pos ⟨c_4, c_13⟩, if_neg (fun q => c_35 q.2)]; first | done | rfl) | (unfold sPuts; rw [if_pos ⟨c_4, c_13⟩, if_pos ⟨c_24, c_35⟩, hqs, if_neg (fun q => c_46 q.1)]; first | done | rfl) | (unfold sPuts; rw [if_pos ⟨c_4, c_13⟩, if_pos ⟨c_24, c_35⟩, hqs, if_neg (fun q => q.2 c_53)]; first | done | rfl) | (unfold sPuts; rw [if_pos ⟨c_4, c_13⟩, if_pos ⟨c_24, c_35⟩, hqs, if_pos ⟨c_46, c_53⟩, if_pos c_68]; first | done | rfl) | (unfold sPuts; rw [if_pos ⟨c_4, c_13⟩, if_pos ⟨c_24, c_35⟩, hqs, if_pos ⟨c_46, c_53⟩, if_neg c_68, hqc]; first | done | rfl), by first | (unfold sPuts; rw [if_neg (fun q => c_4 q.1)]; first | done | rfl) | (unfold sPuts; rw [if_neg (fun q => c_13 q.2)]; first | done | rfl) | (unfold sPuts; rw [if_pos ⟨c_4, c_13⟩, if_neg (fun q => c_24 q.1)]; first | done | rfl) | (unfold sPuts; rw [if_pos ⟨c_4, c_13⟩, if_neg (fun q => c_35 q.2)]; first | done | rfl) | (unfold sPuts; rw [if_pos ⟨c_4, c_13⟩, if_pos ⟨c_24, c_35⟩, hqs, if_neg (fun q => c_46 q.1)]; first | done | rfl) | (unfold sPuts; rw [if_pos ⟨c_4, c_13⟩, if_pos ⟨c_24, c_35⟩, hqs, if_neg (fun q => q.2 c_53)]; first | done | rfl) | (unfold sPuts; rw [if_pos ⟨c_4, c_13⟩, if_pos ⟨c_24, c_35⟩, hqs, if_pos ⟨c_46, c_53⟩, if_pos c_68]; first | done | rfl) | (unfold sPuts; rw [if_pos ⟨c_4, c_13⟩, if_pos ⟨c_24, c_35⟩, hqs, if_pos ⟨c_46, c_53⟩, if_neg c_68, hqc]; first | done | rfl)⟩
