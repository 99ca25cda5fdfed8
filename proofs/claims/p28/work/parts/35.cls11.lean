/-! the class: its changes -/
def zPr (h : zhp) (S : Nat → Nat → Int32) (P PI : Nat → Nat → Nat) (n o c : Nat) : zhp := zt h (zbs (1 + (o + c) % 7)) (kBm (S (1 + (o + c) % 7)) (S 0) n) (P (1 + (o + c) % 7)) (PI (1 + (o + c) % 7))
theorem KK_pr {h : zhp} {S : Nat → Nat → Int32} {P PI : Nat → Nat → Nat} (hK : KK h S P PI) (n o c : Nat) : KK (zPr h S P PI n o c) (up S (1 + (o + c) % 7) (kBm (S (1 + (o + c) % 7)) (S 0) n)) (up P (1 + (o + c) % 7) (P (1 + (o + c) % 7))) (up PI (1 + (o + c) % 7) (PI (1 + (o + c) % 7))) := KK_set hK (by omega) _ (hK.2 _ (by omega)).2.1
theorem KK_pr0 {h : zhp} {S : Nat → Nat → Int32} {P PI : Nat → Nat → Nat} (hK : KK h S P PI) (n o c : Nat) : zt (zPr h S P PI n o c) 5 (S 0) (P 0) (PI 0) = zPr h S P PI n o c := by
  have := KK_t (KK_pr hK n o c) (t := 0) (by omega)
  rw [up_n (by omega), up_n (by omega), up_n (by omega)] at this
  exact this
theorem zHi_t {h : zhp} {o c t : Nat} (hH : zHi h o c) (ht : t < 10) (s : Nat → Int32) (p pi : Nat → Nat) : zHi (zt h (zbs t) s p pi) o c := by
  have := zbs_rg ht
  obtain ⟨h1, h2, h3⟩ := hH
  exact ⟨(zt_I (by omega)).trans h1, (zt_I (by omega)).trans h2, h3⟩
/-- behind a change that answers e and leaves the town as s1 -/
def zcQ (h : zhp) (S : Nat → Nat → Int32) (P PI : Nat → Nat → Nat) (n o c : Nat) (e : Int32) (s1 : Nat → Int32) : Option Value → zhp → Prop := fun r h1 => r = some (.int e) ∧ ∃ p1 pi1, zPm p1 pi1 ∧ h1 = zSe (zt (zPr h S P PI n o c) 5 s1 p1 pi1) o c e
set_option maxRecDepth 100000 in
set_option maxHeartbeats 4000000 in
theorem c_X5_set {h : zhp} {S : Nat → Nat → Int32} {P PI : Nat → Nat → Nat} (hK : KK h S P PI) {o c : Nat} (hH : zHi h o c) {n : Nat} (hw : sWF (S 0) n) (v w : Int32) : MM iX5_set [.ref 4, .int v, .int w] h (zcQ h S P PI n o c (sSet (S 0) v w).1 (sSet (S 0) v w).2) := by
  have hK1 := KK_pr hK n o c
  have hH1 : zHi (zPr h S P PI n o c) o c := zHi_t hH (by omega) _ _ _
  have hS0 : zTS (zPr h S P PI n o c) 5 := (hK1.2 0 (by omega)).1
  have hp0 : zPm (P 0) (PI 0) := (hK.2 0 (by omega)).2.1
  have hn10 := hw.1
  refine MM_of (by decide +kernel) (Nat.le_of_ble_eq_true rfl) ?_
  refine tt_aload_n dX5_set_0 rfl ?_
  refine tt_getR dX5_set_1 fX5_19 rfl hK.1.2.2.1.1 hK.1.2.2.1.2.2.1 ?_
  refine tt_aload_n dX5_set_4 rfl ?_
  refine tt_getR dX5_set_5 fX5_10 rfl hK.1.2.2.1.1 hK.1.2.2.1.2.1 ?_
  refine tt_fVv (c_X0_prepare hK hH hw) dX5_set_8 vX5_38 rfl rfl hK.1.2.2.2.1.1 (by decide) rfl (by decide) ⟨rfl, rfl⟩ (Nat.zero_le _) (Nat.zero_le _) (Nat.le_of_ble_eq_true rfl) ?_
  refine (show TT iX5_set 11 _ _ (zPr h S P PI n o c) 0 0 _ from ?_)
  refine tt_aload_n dX5_set_11 rfl ?_
  refine tt_getR dX5_set_12 fX5_19 rfl hK1.1.2.2.1.1 hK1.1.2.2.1.2.2.1 ?_
  refine tt_aload_n dX5_set_15 rfl ?_
  refine tt_getR dX5_set_16 fX5_10 rfl hK1.1.2.2.1.1 hK1.1.2.2.1.2.1 ?_
  refine tt_iload_n dX5_set_19 rfl ?_
  refine tt_iload_n dX5_set_20 rfl ?_
  refine tt_hp (KK_pr0 hK n o c).symm ?_
  refine tt_fVi (c_X4_changeSetting hS0 _ hp0 ⟨hK1.1.2.1, by omega⟩ _ _) dX5_set_21 vX5_42 rfl rfl hS0.2.1 (by decide) rfl (by decide) ⟨rfl, rfl⟩ (Nat.zero_le _) (Nat.zero_le _) (Nat.le_of_ble_eq_true rfl) ?_
  refine tt_fVi (c_X0_settle (KK_set hK1 (t := 0) (by omega) _ hp0) (zHi_t hH1 (t := 0) (by omega) _ _ _) _) dX5_set_24 vX5_46 rfl rfl hK1.1.2.2.2.1.1 (by decide) rfl (by decide) ⟨rfl, rfl⟩ (Nat.zero_le _) (Nat.zero_le _) (Nat.le_of_ble_eq_true rfl) ?_
  exact tt_ireturn dX5_set_27 rfl rfl (Nat.zero_le _) (Nat.zero_le _) ⟨rfl, _, _, hp0, rfl⟩
set_option maxRecDepth 100000 in
set_option maxHeartbeats 4000000 in
theorem c_X5_places {h : zhp} {S : Nat → Nat → Int32} {P PI : Nat → Nat → Nat} (hK : KK h S P PI) {o c : Nat} (hH : zHi h o c) {n : Nat} (hw : sWF (S 0) n) (v w : Int32) : MM iX5_places [.ref 4, .int v, .int w] h (zcQ h S P PI n o c (sPlaces (S 0) v w).1 (sPlaces (S 0) v w).2) := by
  have hK1 := KK_pr hK n o c
  have hH1 : zHi (zPr h S P PI n o c) o c := zHi_t hH (by omega) _ _ _
  have hS0 : zTS (zPr h S P PI n o c) 5 := (hK1.2 0 (by omega)).1
  have hp0 : zPm (P 0) (PI 0) := (hK.2 0 (by omega)).2.1
  have hn10 := hw.1
  refine MM_of (by decide +kernel) (Nat.le_of_ble_eq_true rfl) ?_
  refine tt_aload_n dX5_places_0 rfl ?_
  refine tt_getR dX5_places_1 fX5_19 rfl hK.1.2.2.1.1 hK.1.2.2.1.2.2.1 ?_
  refine tt_aload_n dX5_places_4 rfl ?_
  refine tt_getR dX5_places_5 fX5_10 rfl hK.1.2.2.1.1 hK.1.2.2.1.2.1 ?_
  refine tt_fVv (c_X0_prepare hK hH hw) dX5_places_8 vX5_38 rfl rfl hK.1.2.2.2.1.1 (by decide) rfl (by decide) ⟨rfl, rfl⟩ (Nat.zero_le _) (Nat.zero_le _) (Nat.le_of_ble_eq_true rfl) ?_
  refine (show TT iX5_places 11 _ _ (zPr h S P PI n o c) 0 0 _ from ?_)
  refine tt_aload_n dX5_places_11 rfl ?_
  refine tt_getR dX5_places_12 fX5_19 rfl hK1.1.2.2.1.1 hK1.1.2.2.1.2.2.1 ?_
  refine tt_aload_n dX5_places_15 rfl ?_
  refine tt_getR dX5_places_16 fX5_10 rfl hK1.1.2.2.1.1 hK1.1.2.2.1.2.1 ?_
  refine tt_iload_n dX5_places_19 rfl ?_
  refine tt_iload_n dX5_places_20 rfl ?_
  refine tt_hp (KK_pr0 hK n o c).symm ?_
  refine tt_fVi (c_X4_changePlaces hS0 _ hp0 _ _) dX5_places_21 vX5_50 rfl rfl hS0.2.1 (by decide) rfl (by decide) ⟨rfl, rfl⟩ (Nat.zero_le _) (Nat.zero_le _) (Nat.le_of_ble_eq_true rfl) ?_
  refine tt_fVi (c_X0_settle (KK_set hK1 (t := 0) (by omega) _ hp0) (zHi_t hH1 (t := 0) (by omega) _ _ _) _) dX5_places_24 vX5_46 rfl rfl hK1.1.2.2.2.1.1 (by decide) rfl (by decide) ⟨rfl, rfl⟩ (Nat.zero_le _) (Nat.zero_le _) (Nat.le_of_ble_eq_true rfl) ?_
  exact tt_ireturn dX5_places_27 rfl rfl (Nat.zero_le _) (Nat.zero_le _) ⟨rfl, _, _, hp0, rfl⟩
set_option maxRecDepth 100000 in
set_option maxHeartbeats 4000000 in
theorem c_X5_put {h : zhp} {S : Nat → Nat → Int32} {P PI : Nat → Nat → Nat} (hK : KK h S P PI) {o c : Nat} (hH : zHi h o c) {n : Nat} (hw : sWF (S 0) n) (cu z st g : Int32) : MM iX5_put [.ref 4, .int cu, .int z, .int st, .int g] h (zcQ h S P PI n o c (kPuts (S 0) n cu z st g).1 (kPuts (S 0) n cu z st g).2) := by
  have hK1 := KK_pr hK n o c
  have hH1 : zHi (zPr h S P PI n o c) o c := zHi_t hH (by omega) _ _ _
  have hS0 : zTS (zPr h S P PI n o c) 5 := (hK1.2 0 (by omega)).1
  have hp0 : zPm (P 0) (PI 0) := (hK.2 0 (by omega)).2.1
  have hn10 := hw.1
  refine MM_of (by decide +kernel) (Nat.le_of_ble_eq_true rfl) ?_
  refine tt_aload_n dX5_put_0 rfl ?_
  refine tt_getR dX5_put_1 fX5_19 rfl hK.1.2.2.1.1 hK.1.2.2.1.2.2.1 ?_
  refine tt_aload_n dX5_put_4 rfl ?_
  refine tt_getR dX5_put_5 fX5_10 rfl hK.1.2.2.1.1 hK.1.2.2.1.2.1 ?_
  refine tt_fVv (c_X0_prepare hK hH hw) dX5_put_8 vX5_38 rfl rfl hK.1.2.2.2.1.1 (by decide) rfl (by decide) ⟨rfl, rfl⟩ (Nat.zero_le _) (Nat.zero_le _) (Nat.le_of_ble_eq_true rfl) ?_
  refine (show TT iX5_put 11 _ _ (zPr h S P PI n o c) 0 0 _ from ?_)
  refine tt_aload_n dX5_put_11 rfl ?_
  refine tt_getR dX5_put_12 fX5_19 rfl hK1.1.2.2.1.1 hK1.1.2.2.1.2.2.1 ?_
  refine tt_aload_n dX5_put_15 rfl ?_
  refine tt_getR dX5_put_16 fX5_10 rfl hK1.1.2.2.1.1 hK1.1.2.2.1.2.1 ?_
  refine tt_iload_n dX5_put_19 rfl ?_
  refine tt_iload_n dX5_put_20 rfl ?_
  refine tt_iload_n dX5_put_21 rfl ?_
  refine tt_iload dX5_put_22 rfl ?_
  refine tt_hp (KK_pr0 hK n o c).symm ?_
  refine tt_fVi (c_X4_bringSkip hS0 _ hp0 n hw _ _ _ _) dX5_put_24 vX5_53 rfl rfl hS0.2.1 (by decide) rfl (by decide) ⟨rfl, rfl⟩ (Nat.zero_le _) (Nat.zero_le _) (Nat.le_of_ble_eq_true rfl) ?_
  refine tt_fVi (c_X0_settle (KK_set hK1 (t := 0) (by omega) _ hp0) (zHi_t hH1 (t := 0) (by omega) _ _ _) _) dX5_put_27 vX5_46 rfl rfl hK1.1.2.2.2.1.1 (by decide) rfl (by decide) ⟨rfl, rfl⟩ (Nat.zero_le _) (Nat.zero_le _) (Nat.le_of_ble_eq_true rfl) ?_
  exact tt_ireturn dX5_put_30 rfl rfl (Nat.zero_le _) (Nat.zero_le _) ⟨rfl, _, _, hp0, rfl⟩
set_option maxRecDepth 100000 in
set_option maxHeartbeats 4000000 in
theorem c_X5_swap {h : zhp} {S : Nat → Nat → Int32} {P PI : Nat → Nat → Nat} (hK : KK h S P PI) {o c : Nat} (hH : zHi h o c) {n : Nat} (hw : sWF (S 0) n) (v : Int32) : MM iX5_swap [.ref 4, .int v] h (zcQ h S P PI n o c (kSw (S 0) v).1 (kSw (S 0) v).2) := by
  have hK1 := KK_pr hK n o c
  have hH1 : zHi (zPr h S P PI n o c) o c := zHi_t hH (by omega) _ _ _
  have hS0 : zTS (zPr h S P PI n o c) 5 := (hK1.2 0 (by omega)).1
  have hp0 : zPm (P 0) (PI 0) := (hK.2 0 (by omega)).2.1
  have hn10 := hw.1
  refine MM_of (by decide +kernel) (Nat.le_of_ble_eq_true rfl) ?_
  refine tt_aload_n dX5_swap_0 rfl ?_
  refine tt_getR dX5_swap_1 fX5_19 rfl hK.1.2.2.1.1 hK.1.2.2.1.2.2.1 ?_
  refine tt_aload_n dX5_swap_4 rfl ?_
  refine tt_getR dX5_swap_5 fX5_10 rfl hK.1.2.2.1.1 hK.1.2.2.1.2.1 ?_
  refine tt_fVv (c_X0_prepare hK hH hw) dX5_swap_8 vX5_38 rfl rfl hK.1.2.2.2.1.1 (by decide) rfl (by decide) ⟨rfl, rfl⟩ (Nat.zero_le _) (Nat.zero_le _) (Nat.le_of_ble_eq_true rfl) ?_
  refine (show TT iX5_swap 11 _ _ (zPr h S P PI n o c) 0 0 _ from ?_)
  refine tt_aload_n dX5_swap_11 rfl ?_
  refine tt_getR dX5_swap_12 fX5_19 rfl hK1.1.2.2.1.1 hK1.1.2.2.1.2.2.1 ?_
  refine tt_aload_n dX5_swap_15 rfl ?_
  refine tt_getR dX5_swap_16 fX5_10 rfl hK1.1.2.2.1.1 hK1.1.2.2.1.2.1 ?_
  refine tt_iload_n dX5_swap_19 rfl ?_
  refine tt_hp (KK_pr0 hK n o c).symm ?_
  refine tt_fVi (c_X4_swapSkip hS0 _ hp0 n hw _) dX5_swap_20 vX5_57 rfl rfl hS0.2.1 (by decide) rfl (by decide) ⟨rfl, rfl⟩ (Nat.zero_le _) (Nat.zero_le _) (Nat.le_of_ble_eq_true rfl) ?_
  refine tt_fVi (c_X0_settle (KK_set hK1 (t := 0) (by omega) _ hp0) (zHi_t hH1 (t := 0) (by omega) _ _ _) _) dX5_swap_23 vX5_46 rfl rfl hK1.1.2.2.2.1.1 (by decide) rfl (by decide) ⟨rfl, rfl⟩ (Nat.zero_le _) (Nat.zero_le _) (Nat.le_of_ble_eq_true rfl) ?_
  exact tt_ireturn dX5_swap_26 rfl rfl (Nat.zero_le _) (Nat.zero_le _) ⟨rfl, _, _, hp0, rfl⟩
set_option maxRecDepth 100000 in
set_option maxHeartbeats 4000000 in
theorem c_X5_take {h : zhp} {S : Nat → Nat → Int32} {P PI : Nat → Nat → Nat} (hK : KK h S P PI) {o c : Nat} (hH : zHi h o c) {n : Nat} (hw : sWF (S 0) n) (v : Int32) : MM iX5_take [.ref 4, .int v] h (zcQ h S P PI n o c (kTk (S 0) n v).1 (kTk (S 0) n v).2) := by
  have hK1 := KK_pr hK n o c
  have hH1 : zHi (zPr h S P PI n o c) o c := zHi_t hH (by omega) _ _ _
  have hS0 : zTS (zPr h S P PI n o c) 5 := (hK1.2 0 (by omega)).1
  have hp0 : zPm (P 0) (PI 0) := (hK.2 0 (by omega)).2.1
  have hn10 := hw.1
  refine MM_of (by decide +kernel) (Nat.le_of_ble_eq_true rfl) ?_
  refine tt_aload_n dX5_take_0 rfl ?_
  refine tt_getR dX5_take_1 fX5_19 rfl hK.1.2.2.1.1 hK.1.2.2.1.2.2.1 ?_
  refine tt_aload_n dX5_take_4 rfl ?_
  refine tt_getR dX5_take_5 fX5_10 rfl hK.1.2.2.1.1 hK.1.2.2.1.2.1 ?_
  refine tt_fVv (c_X0_prepare hK hH hw) dX5_take_8 vX5_38 rfl rfl hK.1.2.2.2.1.1 (by decide) rfl (by decide) ⟨rfl, rfl⟩ (Nat.zero_le _) (Nat.zero_le _) (Nat.le_of_ble_eq_true rfl) ?_
  refine (show TT iX5_take 11 _ _ (zPr h S P PI n o c) 0 0 _ from ?_)
  refine tt_aload_n dX5_take_11 rfl ?_
  refine tt_getR dX5_take_12 fX5_19 rfl hK1.1.2.2.1.1 hK1.1.2.2.1.2.2.1 ?_
  refine tt_aload_n dX5_take_15 rfl ?_
  refine tt_getR dX5_take_16 fX5_10 rfl hK1.1.2.2.1.1 hK1.1.2.2.1.2.1 ?_
  refine tt_iload_n dX5_take_19 rfl ?_
  refine tt_hp (KK_pr0 hK n o c).symm ?_
  refine tt_callV (c_X4_takeSkip hS0 (S 0) hp0 n hw v) dX5_take_20 vX5_60 rfl rfl hS0.2.1 (by decide) rfl (by decide) (Nat.le_of_ble_eq_true rfl) (Nat.le_of_ble_eq_true rfl) (Nat.le_of_ble_eq_true rfl) (fun r1 h1x q1 => ?_)
  obtain ⟨rfl, p1, pi1, hp1, rfl⟩ := q1
  refine (show TT iX5_take 23 _ _ _ 0 0 _ from ?_)
  refine tt_fVi (c_X0_settle (KK_set hK1 (t := 0) (by omega) _ hp1) (zHi_t hH1 (t := 0) (by omega) _ _ _) _) dX5_take_23 vX5_46 rfl rfl hK1.1.2.2.2.1.1 (by decide) rfl (by decide) ⟨rfl, rfl⟩ (Nat.zero_le _) (Nat.zero_le _) (Nat.le_of_ble_eq_true rfl) ?_
  exact tt_ireturn dX5_take_26 rfl rfl (Nat.zero_le _) (Nat.zero_le _) ⟨rfl, _, _, hp1, rfl⟩
set_option maxRecDepth 100000 in
set_option maxHeartbeats 4000000 in
theorem c_X5_permit {h : zhp} {S : Nat → Nat → Int32} {P PI : Nat → Nat → Nat} (hK : KK h S P PI) {o c : Nat} (hH : zHi h o c) {n : Nat} (hw : sWF (S 0) n) (v w : Int32) : MM iX5_permit [.ref 4, .int v, .int w] h (zcQ h S P PI n o c (kPe (S 0) v w).1 (kPe (S 0) v w).2) := by
  have hK1 := KK_pr hK n o c
  have hH1 : zHi (zPr h S P PI n o c) o c := zHi_t hH (by omega) _ _ _
  have hS0 : zTS (zPr h S P PI n o c) 5 := (hK1.2 0 (by omega)).1
  have hp0 : zPm (P 0) (PI 0) := (hK.2 0 (by omega)).2.1
  have hn10 := hw.1
  refine MM_of (by decide +kernel) (Nat.le_of_ble_eq_true rfl) ?_
  refine tt_aload_n dX5_permit_0 rfl ?_
  refine tt_getR dX5_permit_1 fX5_19 rfl hK.1.2.2.1.1 hK.1.2.2.1.2.2.1 ?_
  refine tt_aload_n dX5_permit_4 rfl ?_
  refine tt_getR dX5_permit_5 fX5_10 rfl hK.1.2.2.1.1 hK.1.2.2.1.2.1 ?_
  refine tt_fVv (c_X0_prepare hK hH hw) dX5_permit_8 vX5_38 rfl rfl hK.1.2.2.2.1.1 (by decide) rfl (by decide) ⟨rfl, rfl⟩ (Nat.zero_le _) (Nat.zero_le _) (Nat.le_of_ble_eq_true rfl) ?_
  refine (show TT iX5_permit 11 _ _ (zPr h S P PI n o c) 0 0 _ from ?_)
  refine tt_aload_n dX5_permit_11 rfl ?_
  refine tt_getR dX5_permit_12 fX5_19 rfl hK1.1.2.2.1.1 hK1.1.2.2.1.2.2.1 ?_
  refine tt_aload_n dX5_permit_15 rfl ?_
  refine tt_getR dX5_permit_16 fX5_10 rfl hK1.1.2.2.1.1 hK1.1.2.2.1.2.1 ?_
  refine tt_iload_n dX5_permit_19 rfl ?_
  refine tt_iload_n dX5_permit_20 rfl ?_
  refine tt_hp (KK_pr0 hK n o c).symm ?_
  refine tt_fVi (c_X4_prolongPermit hS0 _ hp0 n hw _ _) dX5_permit_21 vX5_63 rfl rfl hS0.2.1 (by decide) rfl (by decide) ⟨rfl, rfl⟩ (Nat.zero_le _) (Nat.zero_le _) (Nat.le_of_ble_eq_true rfl) ?_
  refine tt_fVi (c_X0_settle (KK_set hK1 (t := 0) (by omega) _ hp0) (zHi_t hH1 (t := 0) (by omega) _ _ _) _) dX5_permit_24 vX5_46 rfl rfl hK1.1.2.2.2.1.1 (by decide) rfl (by decide) ⟨rfl, rfl⟩ (Nat.zero_le _) (Nat.zero_le _) (Nat.le_of_ble_eq_true rfl) ?_
  exact tt_ireturn dX5_permit_27 rfl rfl (Nat.zero_le _) (Nat.zero_le _) ⟨rfl, _, _, hp0, rfl⟩
set_option maxRecDepth 100000 in
set_option maxHeartbeats 4000000 in
theorem c_X5_oil {h : zhp} {S : Nat → Nat → Int32} {P PI : Nat → Nat → Nat} (hK : KK h S P PI) {o c : Nat} (hH : zHi h o c) {n : Nat} (hw : sWF (S 0) n) (v : Int32) : MM iX5_oil [.ref 4, .int v] h (zcQ h S P PI n o c (sOi (S 0) v).1 (sOi (S 0) v).2) := by
  have hK1 := KK_pr hK n o c
  have hH1 : zHi (zPr h S P PI n o c) o c := zHi_t hH (by omega) _ _ _
  have hS0 : zTS (zPr h S P PI n o c) 5 := (hK1.2 0 (by omega)).1
  have hp0 : zPm (P 0) (PI 0) := (hK.2 0 (by omega)).2.1
  have hn10 := hw.1
  refine MM_of (by decide +kernel) (Nat.le_of_ble_eq_true rfl) ?_
  refine tt_aload_n dX5_oil_0 rfl ?_
  refine tt_getR dX5_oil_1 fX5_19 rfl hK.1.2.2.1.1 hK.1.2.2.1.2.2.1 ?_
  refine tt_aload_n dX5_oil_4 rfl ?_
  refine tt_getR dX5_oil_5 fX5_10 rfl hK.1.2.2.1.1 hK.1.2.2.1.2.1 ?_
  refine tt_fVv (c_X0_prepare hK hH hw) dX5_oil_8 vX5_38 rfl rfl hK.1.2.2.2.1.1 (by decide) rfl (by decide) ⟨rfl, rfl⟩ (Nat.zero_le _) (Nat.zero_le _) (Nat.le_of_ble_eq_true rfl) ?_
  refine (show TT iX5_oil 11 _ _ (zPr h S P PI n o c) 0 0 _ from ?_)
  refine tt_aload_n dX5_oil_11 rfl ?_
  refine tt_getR dX5_oil_12 fX5_19 rfl hK1.1.2.2.1.1 hK1.1.2.2.1.2.2.1 ?_
  refine tt_aload_n dX5_oil_15 rfl ?_
  refine tt_getR dX5_oil_16 fX5_10 rfl hK1.1.2.2.1.1 hK1.1.2.2.1.2.1 ?_
  refine tt_iload_n dX5_oil_19 rfl ?_
  refine tt_hp (KK_pr0 hK n o c).symm ?_
  refine tt_fVi (c_X4_fillLamp hS0 _ hp0 n hw _) dX5_oil_20 vX5_66 rfl rfl hS0.2.1 (by decide) rfl (by decide) ⟨rfl, rfl⟩ (Nat.zero_le _) (Nat.zero_le _) (Nat.le_of_ble_eq_true rfl) ?_
  refine tt_fVi (c_X0_settle (KK_set hK1 (t := 0) (by omega) _ hp0) (zHi_t hH1 (t := 0) (by omega) _ _ _) _) dX5_oil_23 vX5_46 rfl rfl hK1.1.2.2.2.1.1 (by decide) rfl (by decide) ⟨rfl, rfl⟩ (Nat.zero_le _) (Nat.zero_le _) (Nat.le_of_ble_eq_true rfl) ?_
  exact tt_ireturn dX5_oil_26 rfl rfl (Nat.zero_le _) (Nat.zero_le _) ⟨rfl, _, _, hp0, rfl⟩
set_option maxRecDepth 100000 in
set_option maxHeartbeats 4000000 in
theorem c_X5_growth {h : zhp} {S : Nat → Nat → Int32} {P PI : Nat → Nat → Nat} (hK : KK h S P PI) {o c : Nat} (hH : zHi h o c) {n : Nat} (hw : sWF (S 0) n) (v w : Int32) : MM iX5_growth [.ref 4, .int v, .int w] h (zcQ h S P PI n o c (sGro (S 0) v w).1 (sGro (S 0) v w).2) := by
  have hK1 := KK_pr hK n o c
  have hH1 : zHi (zPr h S P PI n o c) o c := zHi_t hH (by omega) _ _ _
  have hS0 : zTS (zPr h S P PI n o c) 5 := (hK1.2 0 (by omega)).1
  have hp0 : zPm (P 0) (PI 0) := (hK.2 0 (by omega)).2.1
  have hn10 := hw.1
  refine MM_of (by decide +kernel) (Nat.le_of_ble_eq_true rfl) ?_
  refine tt_aload_n dX5_growth_0 rfl ?_
  refine tt_getR dX5_growth_1 fX5_19 rfl hK.1.2.2.1.1 hK.1.2.2.1.2.2.1 ?_
  refine tt_aload_n dX5_growth_4 rfl ?_
  refine tt_getR dX5_growth_5 fX5_10 rfl hK.1.2.2.1.1 hK.1.2.2.1.2.1 ?_
  refine tt_fVv (c_X0_prepare hK hH hw) dX5_growth_8 vX5_38 rfl rfl hK.1.2.2.2.1.1 (by decide) rfl (by decide) ⟨rfl, rfl⟩ (Nat.zero_le _) (Nat.zero_le _) (Nat.le_of_ble_eq_true rfl) ?_
  refine (show TT iX5_growth 11 _ _ (zPr h S P PI n o c) 0 0 _ from ?_)
  refine tt_aload_n dX5_growth_11 rfl ?_
  refine tt_getR dX5_growth_12 fX5_19 rfl hK1.1.2.2.1.1 hK1.1.2.2.1.2.2.1 ?_
  refine tt_aload_n dX5_growth_15 rfl ?_
  refine tt_getR dX5_growth_16 fX5_10 rfl hK1.1.2.2.1.1 hK1.1.2.2.1.2.1 ?_
  refine tt_iload_n dX5_growth_19 rfl ?_
  refine tt_iload_n dX5_growth_20 rfl ?_
  refine tt_hp (KK_pr0 hK n o c).symm ?_
  refine tt_fVi (c_X4_changeGrowth hS0 _ hp0 n hw _ _) dX5_growth_21 vX5_69 rfl rfl hS0.2.1 (by decide) rfl (by decide) ⟨rfl, rfl⟩ (Nat.zero_le _) (Nat.zero_le _) (Nat.le_of_ble_eq_true rfl) ?_
  refine tt_fVi (c_X0_settle (KK_set hK1 (t := 0) (by omega) _ hp0) (zHi_t hH1 (t := 0) (by omega) _ _ _) _) dX5_growth_24 vX5_46 rfl rfl hK1.1.2.2.2.1.1 (by decide) rfl (by decide) ⟨rfl, rfl⟩ (Nat.zero_le _) (Nat.zero_le _) (Nat.le_of_ble_eq_true rfl) ?_
  exact tt_ireturn dX5_growth_27 rfl rfl (Nat.zero_le _) (Nat.zero_le _) ⟨rfl, _, _, hp0, rfl⟩
set_option maxRecDepth 100000 in
set_option maxHeartbeats 4000000 in
theorem c_X5_pass {h : zhp} {S : Nat → Nat → Int32} {P PI : Nat → Nat → Nat} (hK : KK h S P PI) {o c : Nat} (hH : zHi h o c) {n : Nat} (hw : sWF (S 0) n) (v : Int32) : MM iX5_pass [.ref 4, .int v] h (zcQ h S P PI n o c (kPas (S 0) n v).1 (kPas (S 0) n v).2) := by
  have hK1 := KK_pr hK n o c
  have hH1 : zHi (zPr h S P PI n o c) o c := zHi_t hH (by omega) _ _ _
  have hS0 : zTS (zPr h S P PI n o c) 5 := (hK1.2 0 (by omega)).1
  have hp0 : zPm (P 0) (PI 0) := (hK.2 0 (by omega)).2.1
  have hn10 := hw.1
  refine MM_of (by decide +kernel) (Nat.le_of_ble_eq_true rfl) ?_
  refine tt_aload_n dX5_pass_0 rfl ?_
  refine tt_getR dX5_pass_1 fX5_19 rfl hK.1.2.2.1.1 hK.1.2.2.1.2.2.1 ?_
  refine tt_aload_n dX5_pass_4 rfl ?_
  refine tt_getR dX5_pass_5 fX5_10 rfl hK.1.2.2.1.1 hK.1.2.2.1.2.1 ?_
  refine tt_fVv (c_X0_prepare hK hH hw) dX5_pass_8 vX5_38 rfl rfl hK.1.2.2.2.1.1 (by decide) rfl (by decide) ⟨rfl, rfl⟩ (Nat.zero_le _) (Nat.zero_le _) (Nat.le_of_ble_eq_true rfl) ?_
  refine (show TT iX5_pass 11 _ _ (zPr h S P PI n o c) 0 0 _ from ?_)
  refine tt_aload_n dX5_pass_11 rfl ?_
  refine tt_getR dX5_pass_12 fX5_19 rfl hK1.1.2.2.1.1 hK1.1.2.2.1.2.2.1 ?_
  refine tt_aload_n dX5_pass_15 rfl ?_
  refine tt_getR dX5_pass_16 fX5_10 rfl hK1.1.2.2.1.1 hK1.1.2.2.1.2.1 ?_
  refine tt_iload_n dX5_pass_19 rfl ?_
  refine tt_hp (KK_pr0 hK n o c).symm ?_
  refine tt_fVi (c_X4_passDays hS0 _ hp0 n hw _) dX5_pass_20 vX5_72 rfl rfl hS0.2.1 (by decide) rfl (by decide) ⟨rfl, rfl⟩ (Nat.zero_le _) (Nat.zero_le _) (Nat.le_of_ble_eq_true rfl) ?_
  refine tt_fVi (c_X0_settle (KK_set hK1 (t := 0) (by omega) _ hp0) (zHi_t hH1 (t := 0) (by omega) _ _ _) _) dX5_pass_23 vX5_46 rfl rfl hK1.1.2.2.2.1.1 (by decide) rfl (by decide) ⟨rfl, rfl⟩ (Nat.zero_le _) (Nat.zero_le _) (Nat.le_of_ble_eq_true rfl) ?_
  exact tt_ireturn dX5_pass_26 rfl rfl (Nat.zero_le _) (Nat.zero_le _) ⟨rfl, _, _, hp0, rfl⟩
set_option maxRecDepth 100000 in
set_option maxHeartbeats 4000000 in
theorem c_X5_street {h : zhp} {S : Nat → Nat → Int32} {P PI : Nat → Nat → Nat} (hK : KK h S P PI) {n : Nat} (hw : sWF (S 0) n) (v w : Int32) : MM iX5_street [.ref 4, .int v, .int w] h (zfi (kStr (S 0) n v w) h) := by
  have hS0 := (hK.2 0 (by omega)).1
  have hp0 := (hK.2 0 (by omega)).2.1
  have hn10 := hw.1
  refine MM_of (by decide +kernel) (Nat.le_of_ble_eq_true rfl) ?_
  refine tt_aload_n dX5_street_0 rfl ?_
  refine tt_getR dX5_street_1 fX5_10 rfl hK.1.2.2.1.1 hK.1.2.2.1.2.1 ?_
  refine tt_iload_n dX5_street_4 rfl ?_
  refine tt_iload_n dX5_street_5 rfl ?_
  refine tt_hp (KK_t hK (t := 0) (by omega)).symm ?_
  refine tt_fVi (c_X4_tellStreet hS0 _ hp0 n hw _ _) dX5_street_6 vX5_108 rfl rfl hS0.2.1 (by decide) rfl (by decide) ⟨rfl, rfl⟩ (Nat.zero_le _) (Nat.zero_le _) (Nat.le_of_ble_eq_true rfl) ?_
  exact tt_ireturn dX5_street_9 rfl rfl (Nat.zero_le _) (Nat.zero_le _) ⟨rfl, KK_t hK (t := 0) (by omega)⟩
set_option maxRecDepth 100000 in
set_option maxHeartbeats 4000000 in
theorem c_X5_customer {h : zhp} {S : Nat → Nat → Int32} {P PI : Nat → Nat → Nat} (hK : KK h S P PI) {n : Nat} (hw : sWF (S 0) n) (v w : Int32) : MM iX5_customer [.ref 4, .int v, .int w] h (zfi (kCus (S 0) n v w) h) := by
  have hS0 := (hK.2 0 (by omega)).1
  have hp0 := (hK.2 0 (by omega)).2.1
  have hn10 := hw.1
  refine MM_of (by decide +kernel) (Nat.le_of_ble_eq_true rfl) ?_
  refine tt_aload_n dX5_customer_0 rfl ?_
  refine tt_getR dX5_customer_1 fX5_10 rfl hK.1.2.2.1.1 hK.1.2.2.1.2.1 ?_
  refine tt_iload_n dX5_customer_4 rfl ?_
  refine tt_iload_n dX5_customer_5 rfl ?_
  refine tt_hp (KK_t hK (t := 0) (by omega)).symm ?_
  refine tt_fVi (c_X4_tellCustomer hS0 _ hp0 n hw _ _) dX5_customer_6 vX5_111 rfl rfl hS0.2.1 (by decide) rfl (by decide) ⟨rfl, rfl⟩ (Nat.zero_le _) (Nat.zero_le _) (Nat.le_of_ble_eq_true rfl) ?_
  exact tt_ireturn dX5_customer_9 rfl rfl (Nat.zero_le _) (Nat.zero_le _) ⟨rfl, KK_t hK (t := 0) (by omega)⟩
set_option maxRecDepth 100000 in
set_option maxHeartbeats 4000000 in
theorem c_X5_cost {h : zhp} {S : Nat → Nat → Int32} {P PI : Nat → Nat → Nat} (hK : KK h S P PI) {n : Nat} (hw : sWF (S 0) n) (v w : Int32) : MM iX5_cost [.ref 4, .int v, .int w] h (zfi (if nI 0 ≤ v ∧ v ≤ nI 5 then (if nI 0 ≤ w ∧ w ≤ nI 200 then kCo (S 0) n v w else -2) else -1) h) := by
  have hS0 := (hK.2 0 (by omega)).1
  have hp0 := (hK.2 0 (by omega)).2.1
  have hn10 := hw.1
  refine MM_of (by decide +kernel) (Nat.le_of_ble_eq_true rfl) ?_
  refine tt_aload_n dX5_cost_0 rfl ?_
  refine tt_getR dX5_cost_1 fX5_10 rfl hK.1.2.2.1.1 hK.1.2.2.1.2.1 ?_
  refine tt_iload_n dX5_cost_4 rfl ?_
  refine tt_iload_n dX5_cost_5 rfl ?_
  refine tt_hp (KK_t hK (t := 0) (by omega)).symm ?_
  refine tt_fVi (c_X4_costOfDays hS0 _ hp0 n hw _ _) dX5_cost_6 vX5_129 rfl rfl hS0.2.1 (by decide) rfl (by decide) ⟨rfl, rfl⟩ (Nat.zero_le _) (Nat.zero_le _) (Nat.le_of_ble_eq_true rfl) ?_
  exact tt_ireturn dX5_cost_9 rfl rfl (Nat.zero_le _) (Nat.zero_le _) ⟨rfl, KK_t hK (t := 0) (by omega)⟩
set_option maxRecDepth 100000 in
set_option maxHeartbeats 4000000 in
theorem c_X5_dearest {h : zhp} {S : Nat → Nat → Int32} {P PI : Nat → Nat → Nat} (hK : KK h S P PI) {n : Nat} (hw : sWF (S 0) n) : MM iX5_dearest [.ref 4] h (zfi (if S 0 33 = 0 then -6 else nI (kDe (S 0) n)) h) := by
  have hS0 := (hK.2 0 (by omega)).1
  have hp0 := (hK.2 0 (by omega)).2.1
  have hn10 := hw.1
  refine MM_of (by decide +kernel) (Nat.le_of_ble_eq_true rfl) ?_
  refine tt_aload_n dX5_dearest_0 rfl ?_
  refine tt_getR dX5_dearest_1 fX5_10 rfl hK.1.2.2.1.1 hK.1.2.2.1.2.1 ?_
  refine tt_hp (KK_t hK (t := 0) (by omega)).symm ?_
  refine tt_fVi (c_X4_dearestSkip hS0 _ hp0 n hw) dX5_dearest_4 vX5_142 rfl rfl hS0.2.1 (by decide) rfl (by decide) ⟨rfl, rfl⟩ (Nat.zero_le _) (Nat.zero_le _) (Nat.le_of_ble_eq_true rfl) ?_
  exact tt_ireturn dX5_dearest_7 rfl rfl (Nat.zero_le _) (Nat.zero_le _) ⟨rfl, KK_t hK (t := 0) (by omega)⟩
set_option maxRecDepth 100000 in
set_option maxHeartbeats 4000000 in
theorem c_X5_skip_y {h : zhp} {S : Nat → Nat → Int32} {P PI : Nat → Nat → Nat} (hK : KK h S P PI) {n : Nat} (hw : sWF (S 0) n) (j : Nat) (hj : j < n) (w : Int32) : MM iX5_skip [.ref 4, .int (nI j), .int w] h (zfi (kTe (S 0) j w (S 0 8)) h) := by
  have hS0 := (hK.2 0 (by omega)).1
  have hp0 := (hK.2 0 (by omega)).2.1
  have hn10 := hw.1
  refine MM_of (by decide +kernel) (Nat.le_of_ble_eq_true rfl) ?_
  refine tt_aload_n dX5_skip_0 rfl ?_
  refine tt_getR dX5_skip_1 fX5_10 rfl hK.1.2.2.1.1 hK.1.2.2.1.2.1 ?_
  refine tt_iload_n dX5_skip_4 rfl ?_
  refine tt_hp (KK_t hK (t := 0) (by omega)).symm ?_
  refine tt_fVr (c_X4_findSkip_y hS0 _ hp0 n hw j hj) dX5_skip_5 vX5_95 rfl rfl hS0.2.1 (by decide) rfl (by decide) ⟨rfl, rfl⟩ (Nat.zero_le _) (Nat.zero_le _) (Nat.le_of_ble_eq_true rfl) ?_
  refine tt_astore_n dX5_skip_8 rfl (Nat.le_of_ble_eq_true rfl) rfl ?_
  refine tt_aload_n dX5_skip_9 rfl ?_
  refine tt_ifnonnull (tgt := 17) dX5_skip_10 (by decide) ?_
  refine tt_aload_n dX5_skip_17 rfl ?_
  refine tt_iload_n dX5_skip_18 rfl ?_
  refine tt_aload_n dX5_skip_19 rfl ?_
  refine tt_getR dX5_skip_20 fX5_10 rfl hK.1.2.2.1.1 hK.1.2.2.1.2.1 ?_
  refine tt_tI dX5_skip_23 fX5_99 rfl hS0 (show zix _ 0 7 = some 8 from rfl) ?_
  refine tt_fVi (c_X3_tell hS0 _ hp0 j (by omega) _ _) dX5_skip_26 vX5_103 rfl rfl (zTS_sk hS0 hp0 (by omega)) (by decide) rfl (by decide) ⟨rfl, rfl⟩ (Nat.zero_le _) (Nat.zero_le _) (Nat.le_of_ble_eq_true rfl) ?_
  exact tt_ireturn dX5_skip_29 rfl rfl (Nat.zero_le _) (Nat.zero_le _) ⟨rfl, KK_t hK (t := 0) (by omega)⟩
set_option maxRecDepth 100000 in
set_option maxHeartbeats 4000000 in
theorem c_X5_skip_n {h : zhp} {S : Nat → Nat → Int32} {P PI : Nat → Nat → Nat} (hK : KK h S P PI) {n : Nat} (hw : sWF (S 0) n) (v : Int32) (hq : ¬ (nI 0 ≤ v ∧ v ≤ S 0 33 - nI 1)) (w : Int32) : MM iX5_skip [.ref 4, .int v, .int w] h (zfi (-1) h) := by
  have hS0 := (hK.2 0 (by omega)).1
  have hp0 := (hK.2 0 (by omega)).2.1
  have hn10 := hw.1
  refine MM_of (by decide +kernel) (Nat.le_of_ble_eq_true rfl) ?_
  refine tt_aload_n dX5_skip_0 rfl ?_
  refine tt_getR dX5_skip_1 fX5_10 rfl hK.1.2.2.1.1 hK.1.2.2.1.2.1 ?_
  refine tt_iload_n dX5_skip_4 rfl ?_
  refine tt_hp (KK_t hK (t := 0) (by omega)).symm ?_
  refine tt_fVr (c_X4_findSkip_n hS0 _ hp0 n hw v hq) dX5_skip_5 vX5_95 rfl rfl hS0.2.1 (by decide) rfl (by decide) ⟨rfl, rfl⟩ (Nat.zero_le _) (Nat.zero_le _) (Nat.le_of_ble_eq_true rfl) ?_
  refine tt_astore_nN dX5_skip_8 rfl (Nat.le_of_ble_eq_true rfl) rfl ?_
  refine tt_aload_nN dX5_skip_9 rfl ?_
  refine tt_ifnonnullN dX5_skip_10 ?_
  refine tt_iconst (-1) dX5_skip_13 rfl ?_
  refine tt_goto (tgt := 29) dX5_skip_14 (by decide) ?_
  exact tt_ireturn dX5_skip_29 rfl rfl (Nat.zero_le _) (Nat.zero_le _) ⟨rfl, KK_t hK (t := 0) (by omega)⟩
set_option maxRecDepth 100000 in
set_option maxHeartbeats 4000000 in
theorem c_X5_untilFull_y {h : zhp} {S : Nat → Nat → Int32} {P PI : Nat → Nat → Nat} (hK : KK h S P PI) {n : Nat} (hw : sWF (S 0) n) (j : Nat) (hj : j < n)  : MM iX5_untilFull [.ref 4, .int (nI j)] h (zfi (kUf (S 0) j) h) := by
  have hS0 := (hK.2 0 (by omega)).1
  have hp0 := (hK.2 0 (by omega)).2.1
  have hn10 := hw.1
  refine MM_of (by decide +kernel) (Nat.le_of_ble_eq_true rfl) ?_
  refine tt_aload_n dX5_untilFull_0 rfl ?_
  refine tt_getR dX5_untilFull_1 fX5_10 rfl hK.1.2.2.1.1 hK.1.2.2.1.2.1 ?_
  refine tt_iload_n dX5_untilFull_4 rfl ?_
  refine tt_hp (KK_t hK (t := 0) (by omega)).symm ?_
  refine tt_fVr (c_X4_findSkip_y hS0 _ hp0 n hw j hj) dX5_untilFull_5 vX5_95 rfl rfl hS0.2.1 (by decide) rfl (by decide) ⟨rfl, rfl⟩ (Nat.zero_le _) (Nat.zero_le _) (Nat.le_of_ble_eq_true rfl) ?_
  refine tt_astore_n dX5_untilFull_8 rfl (Nat.le_of_ble_eq_true rfl) rfl ?_
  refine tt_aload_n dX5_untilFull_9 rfl ?_
  refine tt_ifnonnull (tgt := 17) dX5_untilFull_10 (by decide) ?_
  refine tt_aload_n dX5_untilFull_17 rfl ?_
  refine tt_fVi (c_X3_daysUntilFull hS0 _ hp0 j (by omega)) dX5_untilFull_18 vX5_123 rfl rfl (zTS_sk hS0 hp0 (by omega)) (by decide) rfl (by decide) ⟨rfl, rfl⟩ (Nat.zero_le _) (Nat.zero_le _) (Nat.le_of_ble_eq_true rfl) ?_
  exact tt_ireturn dX5_untilFull_21 rfl rfl (Nat.zero_le _) (Nat.zero_le _) ⟨rfl, KK_t hK (t := 0) (by omega)⟩
set_option maxRecDepth 100000 in
set_option maxHeartbeats 4000000 in
theorem c_X5_untilFine_y {h : zhp} {S : Nat → Nat → Int32} {P PI : Nat → Nat → Nat} (hK : KK h S P PI) {n : Nat} (hw : sWF (S 0) n) (j : Nat) (hj : j < n)  : MM iX5_untilFine [.ref 4, .int (nI j)] h (zfi (kUn (S 0) j (S 0 8)) h) := by
  have hS0 := (hK.2 0 (by omega)).1
  have hp0 := (hK.2 0 (by omega)).2.1
  have hn10 := hw.1
  refine MM_of (by decide +kernel) (Nat.le_of_ble_eq_true rfl) ?_
  refine tt_aload_n dX5_untilFine_0 rfl ?_
  refine tt_getR dX5_untilFine_1 fX5_10 rfl hK.1.2.2.1.1 hK.1.2.2.1.2.1 ?_
  refine tt_iload_n dX5_untilFine_4 rfl ?_
  refine tt_hp (KK_t hK (t := 0) (by omega)).symm ?_
  refine tt_fVr (c_X4_findSkip_y hS0 _ hp0 n hw j hj) dX5_untilFine_5 vX5_95 rfl rfl hS0.2.1 (by decide) rfl (by decide) ⟨rfl, rfl⟩ (Nat.zero_le _) (Nat.zero_le _) (Nat.le_of_ble_eq_true rfl) ?_
  refine tt_astore_n dX5_untilFine_8 rfl (Nat.le_of_ble_eq_true rfl) rfl ?_
  refine tt_aload_n dX5_untilFine_9 rfl ?_
  refine tt_ifnonnull (tgt := 17) dX5_untilFine_10 (by decide) ?_
  refine tt_aload_n dX5_untilFine_17 rfl ?_
  refine tt_aload_n dX5_untilFine_18 rfl ?_
  refine tt_getR dX5_untilFine_19 fX5_10 rfl hK.1.2.2.1.1 hK.1.2.2.1.2.1 ?_
  refine tt_tI dX5_untilFine_22 fX5_99 rfl hS0 (show zix _ 0 7 = some 8 from rfl) ?_
  refine tt_fVi (c_X3_daysUntilFine hS0 _ hp0 j (by omega) _) dX5_untilFine_25 vX5_126 rfl rfl (zTS_sk hS0 hp0 (by omega)) (by decide) rfl (by decide) ⟨rfl, rfl⟩ (Nat.zero_le _) (Nat.zero_le _) (Nat.le_of_ble_eq_true rfl) ?_
  exact tt_ireturn dX5_untilFine_28 rfl rfl (Nat.zero_le _) (Nat.zero_le _) ⟨rfl, KK_t hK (t := 0) (by omega)⟩
