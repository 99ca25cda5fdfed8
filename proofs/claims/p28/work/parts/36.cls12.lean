/-! the class: bestSwap, count, texts, undo, slots -/
def kBw (s : Nat → Int32) (j : Nat) (d w : Int32) : Int32 := if (nI 1 ≤ d ∧ d ≤ nI 60) ∧ (nI 0 ≤ w ∧ w ≤ nI 1) then (if w = 0 then nI (kBd s j d.toNatClampNeg) else kBs s j (nI (kBd s j d.toNatClampNeg)) d) else -2
def zSv (h : zhp) (sv : Nat → Bool) : Prop := ∀ i, i < 2 → zI h 146 i = zb (sv i = true)
set_option maxRecDepth 100000 in
set_option maxHeartbeats 4000000 in
theorem c_X5_bestSwap_y {h : zhp} {S : Nat → Nat → Int32} {P PI : Nat → Nat → Nat} (hK : KK h S P PI) {n : Nat} (hw : sWF (S 0) n) (j : Nat) (hj : j < n) (d0 w : Int32) : MM iX5_bestSwap [.ref 4, .int (nI j), .int d0, .int w] h (zfi (kBw (S 0) j d0 w) h) := by
  have hS0 := (hK.2 0 (by omega)).1
  have hp0 := (hK.2 0 (by omega)).2.1
  have hn10 := hw.1
  refine MM_of (by decide +kernel) (Nat.le_of_ble_eq_true rfl) ?_
  refine tt_aload_n dX5_bestSwap_0 rfl ?_
  refine tt_getR dX5_bestSwap_1 fX5_10 rfl hK.1.2.2.1.1 hK.1.2.2.1.2.1 ?_
  refine tt_iload_n dX5_bestSwap_4 rfl ?_
  refine tt_hp (KK_t hK (t := 0) (by omega)).symm ?_
  refine tt_fVr (c_X4_findSkip_y hS0 _ hp0 n hw j hj) dX5_bestSwap_5 vX5_95 rfl rfl hS0.2.1 (by decide) rfl (by decide) ⟨rfl, rfl⟩ (Nat.zero_le _) (Nat.zero_le _) (Nat.le_of_ble_eq_true rfl) ?_
  refine tt_astore dX5_bestSwap_8 rfl (Nat.le_of_ble_eq_true rfl) rfl ?_
  refine tt_aload dX5_bestSwap_10 rfl ?_
  refine tt_ifnonnull (tgt := 17) dX5_bestSwap_12 (by decide) ?_
  refine tt_iload_n dX5_bestSwap_17 rfl ?_
  refine tt_iconst (nI 1) dX5_bestSwap_18 rfl ?_
  refine tt_bipush (nI 60) dX5_bestSwap_19 rfl ?_
  refine tt_fSi (c_X5_isWithin _ _ _ _) dX5_bestSwap_21 sX5_132 rfl rfl (by decide) ⟨rfl, rfl⟩ (Nat.zero_le _) (Nat.zero_le _) (Nat.le_of_ble_eq_true rfl) ?_
  refine tt_if_eqB (tgt := 36) dX5_bestSwap_24 (by decide) (fun c_24 => ?_) (fun c_24 => ?_)
  · refine tt_bipush (-2) dX5_bestSwap_36 rfl ?_
    exact tt_ireturn dX5_bestSwap_38 rfl rfl (Nat.zero_le _) (Nat.zero_le _) (by unfold kBw; rw [if_neg (fun q => by first | exact c_24 q.1 | exact c_33 q.2)]; exact ⟨rfl, KK_t hK (t := 0) (by omega)⟩)
  · refine tt_iload_n dX5_bestSwap_27 rfl ?_
    refine tt_iconst (nI 0) dX5_bestSwap_28 rfl ?_
    refine tt_iconst (nI 1) dX5_bestSwap_29 rfl ?_
    refine tt_fSi (c_X5_isWithin _ _ _ _) dX5_bestSwap_30 sX5_132 rfl rfl (by decide) ⟨rfl, rfl⟩ (Nat.zero_le _) (Nat.zero_le _) (Nat.le_of_ble_eq_true rfl) ?_
    refine tt_if_neB (tgt := 39) dX5_bestSwap_33 (by decide) (fun c_33 => ?_) (fun c_33 => ?_)
    · have c_24b := c_24
      obtain ⟨d, hd, rfl⟩ := zrng (x := d0) (b := 60) (by omega) ⟨Int32.le_trans (by decide) c_24.1, c_24.2⟩
      refine tt_aload dX5_bestSwap_39 rfl ?_
      refine tt_iload_n dX5_bestSwap_41 rfl ?_
      refine tt_fVi (c_X3_bestDayToSwap hS0 _ hp0 j (by omega) d (by omega)) dX5_bestSwap_42 vX5_136 rfl rfl (zTS_sk hS0 hp0 (by omega)) (by decide) rfl (by decide) ⟨rfl, rfl⟩ (Nat.zero_le _) (Nat.zero_le _) (Nat.le_of_ble_eq_true rfl) ?_
      refine tt_istore dX5_bestSwap_45 rfl (Nat.le_of_ble_eq_true rfl) rfl ?_
      refine tt_iload_n dX5_bestSwap_47 rfl ?_
      refine tt_if_ne (tgt := 56) dX5_bestSwap_48 (by decide) (fun c_48 => ?_) (fun c_48 => ?_)
      · refine tt_aload dX5_bestSwap_56 rfl ?_
        refine tt_iload dX5_bestSwap_58 rfl ?_
        refine tt_iload_n dX5_bestSwap_60 rfl ?_
        refine tt_fVi (c_X3_besideWithSwap hS0 _ hp0 j (by omega) _ _) dX5_bestSwap_61 vX5_139 rfl rfl (zTS_sk hS0 hp0 (by omega)) (by decide) rfl (by decide) ⟨rfl, rfl⟩ (Nat.zero_le _) (Nat.zero_le _) (Nat.le_of_ble_eq_true rfl) ?_
        exact tt_ireturn dX5_bestSwap_64 rfl rfl (Nat.zero_le _) (Nat.zero_le _) (by unfold kBw; rw [if_pos ⟨c_24b, c_33⟩, nI_clamp (by omega)]; first | (rw [if_pos c_48]; exact ⟨rfl, KK_t hK (t := 0) (by omega)⟩) | (rw [if_neg c_48]; exact ⟨rfl, KK_t hK (t := 0) (by omega)⟩))
      · refine tt_iload dX5_bestSwap_51 rfl ?_
        refine tt_goto (tgt := 64) dX5_bestSwap_53 (by decide) ?_
        exact tt_ireturn dX5_bestSwap_64 rfl rfl (Nat.zero_le _) (Nat.zero_le _) (by unfold kBw; rw [if_pos ⟨c_24b, c_33⟩, nI_clamp (by omega)]; first | (rw [if_pos c_48]; exact ⟨rfl, KK_t hK (t := 0) (by omega)⟩) | (rw [if_neg c_48]; exact ⟨rfl, KK_t hK (t := 0) (by omega)⟩))
    · refine tt_bipush (-2) dX5_bestSwap_36 rfl ?_
      exact tt_ireturn dX5_bestSwap_38 rfl rfl (Nat.zero_le _) (Nat.zero_le _) (by unfold kBw; rw [if_neg (fun q => by first | exact c_24 q.1 | exact c_33 q.2)]; exact ⟨rfl, KK_t hK (t := 0) (by omega)⟩)
set_option maxRecDepth 100000 in
set_option maxHeartbeats 4000000 in
theorem c_X5_count {h : zhp} {S : Nat → Nat → Int32} {P PI : Nat → Nat → Nat} (hK : KK h S P PI) {o c : Nat} (hH : zHi h o c) {n : Nat} (hw : sWF (S 0) n) {q : Nat → Int32} {m : Nat} (hP : zPd h q m) (v : Int32) : MM iX5_count [.ref 4, .int v] h (zfi (if v = nI 17 then nI m else if v = nI 18 then nI c else kNum (S 0) n v) h) := by
  have hS0 := (hK.2 0 (by omega)).1
  have hp0 := (hK.2 0 (by omega)).2.1
  have hn10 := hw.1
  refine MM_of (by decide +kernel) (Nat.le_of_ble_eq_true rfl) ?_
  refine tt_iload_n dX5_count_0 rfl ?_
  refine tt_bipush (nI 17) dX5_count_1 rfl ?_
  refine tt_icmp_ne (tgt := 14) dX5_count_3 (by decide) (fun c_3 => ?_) (fun c_3 => ?_)
  · refine tt_iload_n dX5_count_14 rfl ?_
    refine tt_bipush (nI 18) dX5_count_15 rfl ?_
    refine tt_icmp_ne (tgt := 28) dX5_count_17 (by decide) (fun c_17 => ?_) (fun c_17 => ?_)
    · refine tt_aload_n dX5_count_28 rfl ?_
      refine tt_getR dX5_count_29 fX5_10 rfl hK.1.2.2.1.1 hK.1.2.2.1.2.1 ?_
      refine tt_iload_n dX5_count_32 rfl ?_
      refine tt_hp (KK_t hK (t := 0) (by omega)).symm ?_
      refine tt_fVi (c_X4_tellNumber hS0 _ hp0 n hw _) dX5_count_33 vX5_120 rfl rfl hS0.2.1 (by decide) rfl (by decide) ⟨rfl, rfl⟩ (Nat.zero_le _) (Nat.zero_le _) (Nat.le_of_ble_eq_true rfl) ?_
      exact tt_ireturn dX5_count_36 rfl rfl (Nat.zero_le _) (Nat.zero_le _) (by rw [if_neg c_3, if_neg c_17]; exact ⟨rfl, KK_t hK (t := 0) (by omega)⟩)
    · refine tt_aload_n dX5_count_20 rfl ?_
      refine tt_getR dX5_count_21 fX5_19 rfl hK.1.2.2.1.1 hK.1.2.2.1.2.2.1 ?_
      refine tt_getI dX5_count_24 fX5_117 rfl hK.1.2.2.2.1.1 ?_
      refine tt_eq hH.2.1 ?_
      exact tt_ireturn dX5_count_27 rfl rfl (Nat.zero_le _) (Nat.zero_le _) (by rw [if_neg c_3, if_pos (by assumption)]; exact ⟨rfl, rfl⟩)
  · refine tt_aload_n dX5_count_6 rfl ?_
    refine tt_getR dX5_count_7 fX5_26 rfl hK.1.2.2.1.1 hK.1.2.2.1.2.2.2.1 ?_
    refine tt_getI dX5_count_10 fX5_114 rfl hP.1.1 ?_
    refine tt_eq hP.2.1 ?_
    exact tt_ireturn dX5_count_13 rfl rfl (Nat.zero_le _) (Nat.zero_le _) (by rw [if_pos (by assumption)]; exact ⟨rfl, rfl⟩)
set_option maxRecDepth 100000 in
set_option maxHeartbeats 4000000 in
theorem c_X0_goBack_0 {h : zhp} {S : Nat → Nat → Int32} {P PI : Nat → Nat → Nat} (hK : KK h S P PI) {o c : Nat} (hH : zHi h o c) (h0 : c = 0) : MM iX0_goBack [.ref 22, .ref 5] h (zfi (-5) h) := by
  subst h0
  refine MM_of (by decide +kernel) (Nat.le_of_ble_eq_true rfl) ?_
  refine tt_aload_n dX0_goBack_0 rfl ?_
  refine tt_getI dX0_goBack_1 fX0_22 rfl hK.1.2.2.2.1.1 ?_
  refine tt_eq hH.2.1 ?_
  refine tt_eq (show _ = nI 0 from rfl) ?_
  refine tt_if_ne (tgt := 10) dX0_goBack_4 (by decide) (fun q => absurd rfl q) (fun _ => ?_)
  refine tt_bipush (-5) dX0_goBack_7 rfl ?_
  exact tt_ireturn dX0_goBack_9 rfl rfl (Nat.zero_le _) (Nat.zero_le _) ⟨rfl, rfl⟩
set_option maxRecDepth 100000 in
set_option maxHeartbeats 4000000 in
theorem c_X0_goBack_s {h : zhp} {S : Nat → Nat → Int32} {P PI : Nat → Nat → Nat} (hK : KK h S P PI) {o c : Nat} (hH : zHi h o c) {n : Nat} (hw : sWF (S (1 + (o + (c - 1)) % 7)) n) (h0 : c ≠ 0) : MM iX0_goBack [.ref 22, .ref 5] h (zfi (nI (c - 1)) (zt (zsI h 22 2 (nI (c - 1))) 5 (kBm (S 0) (S (1 + (o + (c - 1)) % 7)) n) (P 0) (PI 0))) := by
  have hlt : 1 + (o + (c - 1)) % 7 < 10 := by omega
  have hK2 := KK_sI hK (a := 22) (k := 2) (nI (c - 1)) (Or.inl rfl)
  have hH2 : zHi (zsI h 22 2 (nI (c - 1))) o (c - 1) := ⟨(zsI_ne (Or.inr (by omega))).trans hH.1, zsI_at, hH.2.2.1, by have := hH.2.2.2; omega⟩
  refine MM_of (by decide +kernel) (Nat.le_of_ble_eq_true rfl) ?_
  refine tt_aload_n dX0_goBack_0 rfl ?_
  refine tt_getI dX0_goBack_1 fX0_22 rfl hK.1.2.2.2.1.1 ?_
  refine tt_eq hH.2.1 ?_
  refine tt_if_ne (tgt := 10) dX0_goBack_4 (by decide) (fun c_4 => ?_) (fun c_4 => ?_)
  · refine tt_aload_n dX0_goBack_10 rfl ?_
    refine tt_dup dX0_goBack_11 rfl ?_
    refine tt_getI dX0_goBack_12 fX0_22 rfl hK.1.2.2.2.1.1 ?_
    refine tt_eq hH.2.1 ?_
    refine tt_iconst (nI 1) dX0_goBack_15 rfl ?_
    refine tt_isubN dX0_goBack_16 (by omega) ?_
    refine tt_putI dX0_goBack_17 fX0_22 rfl rfl rfl rfl hK.1.2.2.2.1.1 ?_
    skip
    refine tt_aload_n dX0_goBack_20 rfl ?_
    refine tt_aload_n dX0_goBack_21 rfl ?_
    refine tt_getR dX0_goBack_22 fX0_13 rfl hK2.1.2.2.2.1.1 hK2.1.2.2.2.1.2.1 ?_
    refine tt_aload_n dX0_goBack_25 rfl ?_
    refine tt_getI dX0_goBack_26 fX0_18 rfl hK2.1.2.2.2.1.1 ?_
    refine tt_eq hH2.1 ?_
    refine tt_aload_n dX0_goBack_29 rfl ?_
    refine tt_getI dX0_goBack_30 fX0_22 rfl hK2.1.2.2.2.1.1 ?_
    refine tt_eq hH2.2.1 ?_
    refine tt_iaddN dX0_goBack_33 ?_
    refine tt_bipush (nI 7) dX0_goBack_34 rfl ?_
    refine tt_irem dX0_goBack_36 (by decide) ?_
    refine tt_eq (z7 _ (by have := hH2.2.2; omega)) ?_
    refine tt_aald dX0_goBack_37 hK2.1.2.2.2.1.2.2.1 (Or.inl rfl) (by decide) (vp_in_nI (by rw [hK2.1.2.2.2.1.2.2.2.1]; omega) (by rw [hK2.1.2.2.2.1.2.2.2.1]; omega)) (b := zbs (1 + (o + (c - 1)) % 7)) (by rw [nI_clamp (by omega)]; exact hK2.1.2.2.2.1.2.2.2.2 _ (by omega)) ?_
    refine tt_hp (KK_t hK2 (t := 0) (by omega)).symm ?_
    refine tt_fVv (c_X4_become (hK2.2 0 (by omega)).1 _ (hK2.2 0 (by omega)).2.1 (hK2.2 _ hlt) (zbs_dj (t := 0) (by omega) hlt (by omega)) n hw.1 hw.2.1) dX0_goBack_38 vX0_25 rfl rfl (hK2.2 0 (by omega)).1.2.1 (by decide) rfl (by decide) ⟨rfl, rfl⟩ (Nat.zero_le _) (Nat.zero_le _) (Nat.le_of_ble_eq_true rfl) ?_
    skip
    refine tt_aload_n dX0_goBack_41 rfl ?_
    refine tt_getI dX0_goBack_42 fX0_22 rfl hK.1.2.2.2.1.1 ?_
    refine tt_eq (y := nI (c - 1)) ((zt_I (b := 5) (by omega)).trans hH2.2.1) ?_
    exact tt_ireturn dX0_goBack_45 rfl rfl (Nat.zero_le _) (Nat.zero_le _) ⟨rfl, rfl⟩
  · exact absurd (znz c_4 (by have := hH.2.2.2; omega)) h0
set_option maxRecDepth 100000 in
set_option maxHeartbeats 4000000 in
theorem c_X5_undo_0 {h : zhp} {S : Nat → Nat → Int32} {P PI : Nat → Nat → Nat} (hK : KK h S P PI) {o c : Nat} (hH : zHi h o c) (h0 : c = 0) : MM iX5_undo [.ref 4] h (zfi (-5) h) := by
  refine MM_of (by decide +kernel) (Nat.le_of_ble_eq_true rfl) ?_
  refine tt_aload_n dX5_undo_0 rfl ?_
  refine tt_getR dX5_undo_1 fX5_19 rfl hK.1.2.2.1.1 hK.1.2.2.1.2.2.1 ?_
  refine tt_aload_n dX5_undo_4 rfl ?_
  refine tt_getR dX5_undo_5 fX5_10 rfl hK.1.2.2.1.1 hK.1.2.2.1.2.1 ?_
  refine tt_fVi (c_X0_goBack_0 hK hH h0) dX5_undo_8 vX5_149 rfl rfl hK.1.2.2.2.1.1 (by decide) rfl (by decide) ⟨rfl, rfl⟩ (Nat.zero_le _) (Nat.zero_le _) (Nat.le_of_ble_eq_true rfl) ?_
  exact tt_ireturn dX5_undo_11 rfl rfl (Nat.zero_le _) (Nat.zero_le _) ⟨rfl, rfl⟩
set_option maxRecDepth 100000 in
set_option maxHeartbeats 4000000 in
theorem c_X5_undo_s {h : zhp} {S : Nat → Nat → Int32} {P PI : Nat → Nat → Nat} (hK : KK h S P PI) {o c : Nat} (hH : zHi h o c) {n : Nat} (hw : sWF (S (1 + (o + (c - 1)) % 7)) n) (h0 : c ≠ 0) : MM iX5_undo [.ref 4] h (zfi (nI (c - 1)) (zt (zsI h 22 2 (nI (c - 1))) 5 (kBm (S 0) (S (1 + (o + (c - 1)) % 7)) n) (P 0) (PI 0))) := by
  refine MM_of (by decide +kernel) (Nat.le_of_ble_eq_true rfl) ?_
  refine tt_aload_n dX5_undo_0 rfl ?_
  refine tt_getR dX5_undo_1 fX5_19 rfl hK.1.2.2.1.1 hK.1.2.2.1.2.2.1 ?_
  refine tt_aload_n dX5_undo_4 rfl ?_
  refine tt_getR dX5_undo_5 fX5_10 rfl hK.1.2.2.1.1 hK.1.2.2.1.2.1 ?_
  refine tt_fVi (c_X0_goBack_s hK hH hw h0) dX5_undo_8 vX5_149 rfl rfl hK.1.2.2.2.1.1 (by decide) rfl (by decide) ⟨rfl, rfl⟩ (Nat.zero_le _) (Nat.zero_le _) (Nat.le_of_ble_eq_true rfl) ?_
  exact tt_ireturn dX5_undo_11 rfl rfl (Nat.zero_le _) (Nat.zero_le _) ⟨rfl, rfl⟩
