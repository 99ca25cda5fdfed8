/-! the reference: loops over customers and skips, puts, tips, takes, permits, oils, the days -/
theorem zlp_fst {α β : Type} (g : Nat → α → α) (u : Nat → β) : ∀ (r k : Nat) (x : α × β), (zlp (fun j (x : α × β) => (g j x.1, u j)) r k x).1 = zlp g r k x.1
  | 0, _, _ => rfl
  | r + 1, k, x => zlp_fst g u r (k + 1) (g k x.1, u k)
def cuN (s : Nat → Int32) (j : Nat) : Nat := (s (34 + 10 * j + 0)).toNatClampNeg
/-- n skips stand, each of one of the 6 customers -/
def sWF (s : Nat → Int32) (n : Nat) : Prop := n ≤ 10 ∧ s 33 = nI n ∧ ∀ j, j < n → ∃ c, c < 6 ∧ s (34 + 10 * j + 0) = nI c
theorem cuN_eq {s : Nat → Int32} {j c : Nat} (hc : c < 6) (h : s (34 + 10 * j + 0) = nI c) : cuN s j = c := by
  unfold cuN
  rw [h]
  exact nI_clamp (by omega)
theorem sLd_ne {s : Nat → Int32} {n k : Nat} (h1 : k ≠ 34 + 10 * n + 3) (h2 : k ≠ 34 + 10 * n + 7) (h3 : k ≠ 134) : sLd s n k = s k := by
  unfold sLd
  rw [pk_un h3, pk_un h2, pk_un h1]
theorem sDo_ne {s : Nat → Int32} {n c k : Nat} (h1 : k ≠ 34 + 10 * n + 3) (h2 : k ≠ 34 + 10 * n + 7) (h3 : k ≠ 134) (h4 : k ≠ 34 + 10 * n + 9) (h5 : k ≠ 34 + 10 * n + 5) (h6 : k ≠ 15 + 3 * c) (h7 : k ≠ 15 + 3 * c + 2) : sDo s n c k = s k := by
  unfold sDo
  rw [sLd_ne h1 h2 h3]
  have e : sHi s n c k = s k := sCh_ne h4 h6
  split
  · unfold sSt
    rw [pk_un h5, sFi_ne h4 h6 h7, sFi_ne h4 h6 h7, e]
  · exact e
theorem sDo_WF {s : Nat → Int32} {n k c : Nat} (h : sWF s n) (hk : k < n) (hc : c < 6) : sWF (sDo s k c) n := by
  obtain ⟨h1, h2, h3⟩ := h
  refine ⟨h1, by rw [sDo_ne (by omega) (by omega) (by omega) (by omega) (by omega) (by omega) (by omega)]; exact h2, fun j hj => ?_⟩
  obtain ⟨d, g1, g2⟩ := h3 j hj
  exact ⟨d, g1, by rw [sDo_ne (by omega) (by omega) (by omega) (by omega) (by omega) (by omega) (by omega)]; exact g2⟩
def sDay (s : Nat → Int32) (n : Nat) : Nat → Int32 := zlp (fun j x => sDo x j (cuN x j)) n 0 (upd (upd s 8 (s 8 + nI 1)) 9 (nI 0))
theorem sDay0_WF {s : Nat → Int32} {n : Nat} (h : sWF s n) : sWF (upd (upd s 8 (s 8 + nI 1)) 9 (nI 0)) n := by
  obtain ⟨h1, h2, h3⟩ := h
  refine ⟨h1, by rw [pk_un (by omega), pk_un (by omega)]; exact h2, fun j hj => ?_⟩
  obtain ⟨d, g1, g2⟩ := h3 j hj
  exact ⟨d, g1, by rw [pk_un (by omega), pk_un (by omega)]; exact g2⟩
theorem sDayI {n : Nat} : ∀ (k : Nat) (x : Nat → Int32), k < n → sWF x n → sWF (sDo x k (cuN x k)) n := fun k x hk hx => by
  obtain ⟨c, hc, hcu⟩ := hx.2.2 k hk
  rw [cuN_eq hc hcu]
  exact sDo_WF hx hk hc
theorem sDay_WF {s : Nat → Int32} {n : Nat} (h : sWF s n) : sWF (sDay s n) n := zlp_inv (fun _ x => sWF x n) n 0 _ (sDay0_WF h) (fun j y _ h2 h3 => sDayI j y (by omega) h3)
def sSum (s : Nat → Int32) (w : Nat) : Int32 := zlp (fun c x => x + s (15 + 3 * c + w)) 6 0 (nI 0)
def sCntSt (s : Nat → Int32) (n : Nat) (v : Int32) : Int32 := zlp (fun j x => x + (if s (34 + 10 * j + 2) = v then nI 1 else nI 0)) n 0 (nI 0)
def sCntCu (s : Nat → Int32) (n : Nat) (v : Int32) : Int32 := zlp (fun j x => x + (if s (34 + 10 * j + 0) = v then nI 1 else nI 0)) n 0 (nI 0)
def sCntNp (s : Nat → Int32) (n : Nat) (v : Int32) : Int32 := zlp (fun j x => x + (if s (34 + 10 * j + 2) = v ∧ ¬ (s (34 + 10 * j + 6) ≠ -6 ∧ s 8 ≤ s (34 + 10 * j + 6)) then nI 1 else nI 0)) n 0 (nI 0)
def sLds (s : Nat → Int32) (n : Nat) (b : Int32) : Int32 := zlp (fun j x => x + (if b = 0 then s (34 + 10 * j + 3) else if s (34 + 10 * j + 3) = nI 20 + nI 20 * s (34 + 10 * j + 1) then nI 1 else nI 0)) n 0 (nI 0)
/-- trips left -/
def sTl (s : Nat → Int32) : Int32 := if s 7 ≤ s 9 then nI 0 else s 7 - s 9
theorem zrng {x : Int32} {b : Nat} (hb : b < 2 ^ 31) (h : nI 0 ≤ x ∧ x ≤ nI b) : ∃ c, c ≤ b ∧ x = nI c := nI_of2 (nI_toInt hb) (Int32.not_lt.mpr h.1) h.2
theorem zskip {s : Nat → Int32} {n : Nat} {x : Int32} (hn : n ≤ 10) (h33 : s 33 = nI n) (h : nI 0 ≤ x ∧ x ≤ s 33 - nI 1) : ∃ j, j < n ∧ x = nI j := by
  rw [h33] at h
  rcases Nat.eq_zero_or_pos n with z | z
  · subst z
    exact absurd (Int32.le_trans h.1 h.2) (by decide)
  · rw [pk_sub (by omega : 1 ≤ n)] at h
    obtain ⟨c, h1, h2⟩ := zrng (by omega) h
    exact ⟨c, by omega, h2⟩
set_option maxRecDepth 100000 in
set_option maxHeartbeats 4000000 in
theorem c_X6_skipsIn {h : zhp} (hM : zMo h) (F s a t l p : Nat → Int32) (n : Nat) (hw : sWF s n) (v : Int32) : MM iX6_skipsIn [.ref 181, .int v] (zm h F s a t l p) (zfi (sCntSt s n v) (zm h F s a t l p)) := by
  refine MM_of (by decide +kernel) (Nat.le_of_ble_eq_true rfl) ?_
  refine tt_iconst (nI 0) dX6_skipsIn_0 rfl ?_
  refine tt_istore_n dX6_skipsIn_1 rfl (Nat.le_of_ble_eq_true rfl) rfl ?_
  refine tt_iconst (nI 0) dX6_skipsIn_2 rfl ?_
  refine tt_istore_n dX6_skipsIn_3 rfl (Nat.le_of_ble_eq_true rfl) rfl ?_
  refine tt_loop (fun j x => x + (if s (34 + 10 * j + 2) = v then nI 1 else nI 0)) n (fun _ _ => True) (fun k x => [some (.ref 181), some (.int v), some (.int x), some (.int (nI k))]) (fun _ _ => zm h F s a t l p) (nI 0) trivial (fun _ _ _ _ => trivial) (fun hx => ?_) (fun k x hk hI ih => ?_)
  · have hn10 := hw.1
    refine tt_iload_n dX6_skipsIn_4 rfl ?_
    refine tt_aload_n dX6_skipsIn_5 rfl ?_
    refine tt_mA (b := 182) dX6_skipsIn_6 fX6_7 rfl hM hM.2.1 ?_
    refine tt_bipush (nI 33) dX6_skipsIn_9 rfl ?_
    refine tt_ld1 dX6_skipsIn_11 hM (by omega) ?_
    refine tt_eq hw.2.1 ?_
    refine tt_icmp_geN (tgt := 43) dX6_skipsIn_12 (by decide) (by omega) (by omega) (fun c_12 => ?_) (fun c_12 => ?_)
    · refine tt_iload_n dX6_skipsIn_43 rfl ?_
      exact tt_ireturn dX6_skipsIn_44 rfl rfl (Nat.zero_le _) (Nat.zero_le _) ⟨rfl, rfl⟩
    · exact absurd c_12 (by omega)
  · have hn10 := hw.1
    refine tt_iload_n dX6_skipsIn_4 rfl ?_
    refine tt_aload_n dX6_skipsIn_5 rfl ?_
    refine tt_mA (b := 182) dX6_skipsIn_6 fX6_7 rfl hM hM.2.1 ?_
    refine tt_bipush (nI 33) dX6_skipsIn_9 rfl ?_
    refine tt_ld1 dX6_skipsIn_11 hM (by omega) ?_
    refine tt_eq hw.2.1 ?_
    refine tt_icmp_geN (tgt := 43) dX6_skipsIn_12 (by decide) (by omega) (by omega) (fun c_12 => ?_) (fun c_12 => ?_)
    · exact absurd c_12 (by omega)
    · refine tt_iload_n dX6_skipsIn_15 rfl ?_
      refine tt_aload_n dX6_skipsIn_16 rfl ?_
      refine tt_mA (b := 182) dX6_skipsIn_17 fX6_7 rfl hM hM.2.1 ?_
      refine tt_iload_n dX6_skipsIn_20 rfl ?_
      refine tt_iconst (nI 2) dX6_skipsIn_21 rfl ?_
      refine tt_fSi (c_X6_of _ _ _) dX6_skipsIn_22 sX6_29 rfl rfl (by decide) ⟨rfl, rfl⟩ (Nat.zero_le _) (Nat.zero_le _) (Nat.le_of_ble_eq_true rfl) ?_
      refine tt_ld1 dX6_skipsIn_25 hM (by omega) ?_
      refine tt_iload_n dX6_skipsIn_26 rfl ?_
      refine tt_c2 (tgt := 35) (x := if s (34 + 10 * k + 2) = v then nI 1 else nI 0) ?_ (fun key_35 => ?_)
      · refine tt_iadd dX6_skipsIn_35 ?_
        refine tt_istore_n dX6_skipsIn_36 rfl (Nat.le_of_ble_eq_true rfl) rfl ?_
        refine tt_iincN dX6_skipsIn_37 rfl rfl (Nat.le_of_ble_eq_true rfl) rfl ?_
        refine tt_goto (tgt := 4) dX6_skipsIn_40 (by decide) ?_
        exact ih
      · refine tt_icmp_ne (tgt := 34) dX6_skipsIn_27 (by decide) (fun c_27 => ?_) (fun c_27 => ?_)
        · refine tt_iconst (nI 0) dX6_skipsIn_34 rfl ?_
          exact key_35 _ (by first | exact (if_pos (by assumption)).symm | exact (if_neg (by assumption)).symm | simp_all)
        · refine tt_iconst (nI 1) dX6_skipsIn_30 rfl ?_
          refine tt_goto (tgt := 35) dX6_skipsIn_31 (by decide) ?_
          exact key_35 _ (by first | exact (if_pos (by assumption)).symm | exact (if_neg (by assumption)).symm | simp_all)
set_option maxRecDepth 100000 in
set_option maxHeartbeats 4000000 in
theorem c_X6_skipsOf {h : zhp} (hM : zMo h) (F s a t l p : Nat → Int32) (n : Nat) (hw : sWF s n) (v : Int32) : MM iX6_skipsOf [.ref 181, .int v] (zm h F s a t l p) (zfi (sCntCu s n v) (zm h F s a t l p)) := by
  refine MM_of (by decide +kernel) (Nat.le_of_ble_eq_true rfl) ?_
  refine tt_iconst (nI 0) dX6_skipsOf_0 rfl ?_
  refine tt_istore_n dX6_skipsOf_1 rfl (Nat.le_of_ble_eq_true rfl) rfl ?_
  refine tt_iconst (nI 0) dX6_skipsOf_2 rfl ?_
  refine tt_istore_n dX6_skipsOf_3 rfl (Nat.le_of_ble_eq_true rfl) rfl ?_
  refine tt_loop (fun j x => x + (if s (34 + 10 * j + 0) = v then nI 1 else nI 0)) n (fun _ _ => True) (fun k x => [some (.ref 181), some (.int v), some (.int x), some (.int (nI k))]) (fun _ _ => zm h F s a t l p) (nI 0) trivial (fun _ _ _ _ => trivial) (fun hx => ?_) (fun k x hk hI ih => ?_)
  · have hn10 := hw.1
    refine tt_iload_n dX6_skipsOf_4 rfl ?_
    refine tt_aload_n dX6_skipsOf_5 rfl ?_
    refine tt_mA (b := 182) dX6_skipsOf_6 fX6_7 rfl hM hM.2.1 ?_
    refine tt_bipush (nI 33) dX6_skipsOf_9 rfl ?_
    refine tt_ld1 dX6_skipsOf_11 hM (by omega) ?_
    refine tt_eq hw.2.1 ?_
    refine tt_icmp_geN (tgt := 43) dX6_skipsOf_12 (by decide) (by omega) (by omega) (fun c_12 => ?_) (fun c_12 => ?_)
    · refine tt_iload_n dX6_skipsOf_43 rfl ?_
      exact tt_ireturn dX6_skipsOf_44 rfl rfl (Nat.zero_le _) (Nat.zero_le _) ⟨rfl, rfl⟩
    · exact absurd c_12 (by omega)
  · have hn10 := hw.1
    refine tt_iload_n dX6_skipsOf_4 rfl ?_
    refine tt_aload_n dX6_skipsOf_5 rfl ?_
    refine tt_mA (b := 182) dX6_skipsOf_6 fX6_7 rfl hM hM.2.1 ?_
    refine tt_bipush (nI 33) dX6_skipsOf_9 rfl ?_
    refine tt_ld1 dX6_skipsOf_11 hM (by omega) ?_
    refine tt_eq hw.2.1 ?_
    refine tt_icmp_geN (tgt := 43) dX6_skipsOf_12 (by decide) (by omega) (by omega) (fun c_12 => ?_) (fun c_12 => ?_)
    · exact absurd c_12 (by omega)
    · refine tt_iload_n dX6_skipsOf_15 rfl ?_
      refine tt_aload_n dX6_skipsOf_16 rfl ?_
      refine tt_mA (b := 182) dX6_skipsOf_17 fX6_7 rfl hM hM.2.1 ?_
      refine tt_iload_n dX6_skipsOf_20 rfl ?_
      refine tt_iconst (nI 0) dX6_skipsOf_21 rfl ?_
      refine tt_fSi (c_X6_of _ _ _) dX6_skipsOf_22 sX6_29 rfl rfl (by decide) ⟨rfl, rfl⟩ (Nat.zero_le _) (Nat.zero_le _) (Nat.le_of_ble_eq_true rfl) ?_
      refine tt_ld1 dX6_skipsOf_25 hM (by omega) ?_
      refine tt_iload_n dX6_skipsOf_26 rfl ?_
      refine tt_c2 (tgt := 35) (x := if s (34 + 10 * k + 0) = v then nI 1 else nI 0) ?_ (fun key_35 => ?_)
      · refine tt_iadd dX6_skipsOf_35 ?_
        refine tt_istore_n dX6_skipsOf_36 rfl (Nat.le_of_ble_eq_true rfl) rfl ?_
        refine tt_iincN dX6_skipsOf_37 rfl rfl (Nat.le_of_ble_eq_true rfl) rfl ?_
        refine tt_goto (tgt := 4) dX6_skipsOf_40 (by decide) ?_
        exact ih
      · refine tt_icmp_ne (tgt := 34) dX6_skipsOf_27 (by decide) (fun c_27 => ?_) (fun c_27 => ?_)
        · refine tt_iconst (nI 0) dX6_skipsOf_34 rfl ?_
          exact key_35 _ (by first | exact (if_pos (by assumption)).symm | exact (if_neg (by assumption)).symm | simp_all)
        · refine tt_iconst (nI 1) dX6_skipsOf_30 rfl ?_
          refine tt_goto (tgt := 35) dX6_skipsOf_31 (by decide) ?_
          exact key_35 _ (by first | exact (if_pos (by assumption)).symm | exact (if_neg (by assumption)).symm | simp_all)
set_option maxRecDepth 100000 in
set_option maxHeartbeats 4000000 in
theorem c_X6_notPermitted {h : zhp} (hM : zMo h) (F s a t l p : Nat → Int32) (n : Nat) (hw : sWF s n) (v : Int32) : MM iX6_notPermitted [.ref 181, .int v] (zm h F s a t l p) (zfi (sCntNp s n v) (zm h F s a t l p)) := by
  refine MM_of (by decide +kernel) (Nat.le_of_ble_eq_true rfl) ?_
  refine tt_iconst (nI 0) dX6_notPermitted_0 rfl ?_
  refine tt_istore_n dX6_notPermitted_1 rfl (Nat.le_of_ble_eq_true rfl) rfl ?_
  refine tt_iconst (nI 0) dX6_notPermitted_2 rfl ?_
  refine tt_istore_n dX6_notPermitted_3 rfl (Nat.le_of_ble_eq_true rfl) rfl ?_
  refine tt_loop (fun j x => x + (if s (34 + 10 * j + 2) = v ∧ ¬ (s (34 + 10 * j + 6) ≠ -6 ∧ s 8 ≤ s (34 + 10 * j + 6)) then nI 1 else nI 0)) n (fun _ _ => True) (fun k x => [some (.ref 181), some (.int v), some (.int x), some (.int (nI k))]) (fun _ _ => zm h F s a t l p) (nI 0) trivial (fun _ _ _ _ => trivial) (fun hx => ?_) (fun k x hk hI ih => ?_)
  · have hn10 := hw.1
    refine tt_iload_n dX6_notPermitted_4 rfl ?_
    refine tt_aload_n dX6_notPermitted_5 rfl ?_
    refine tt_mA (b := 182) dX6_notPermitted_6 fX6_7 rfl hM hM.2.1 ?_
    refine tt_bipush (nI 33) dX6_notPermitted_9 rfl ?_
    refine tt_ld1 dX6_notPermitted_11 hM (by omega) ?_
    refine tt_eq hw.2.1 ?_
    refine tt_icmp_geN (tgt := 51) dX6_notPermitted_12 (by decide) (by omega) (by omega) (fun c_12 => ?_) (fun c_12 => ?_)
    · refine tt_iload_n dX6_notPermitted_51 rfl ?_
      exact tt_ireturn dX6_notPermitted_52 rfl rfl (Nat.zero_le _) (Nat.zero_le _) ⟨rfl, rfl⟩
    · exact absurd c_12 (by omega)
  · have hn10 := hw.1
    refine tt_iload_n dX6_notPermitted_4 rfl ?_
    refine tt_aload_n dX6_notPermitted_5 rfl ?_
    refine tt_mA (b := 182) dX6_notPermitted_6 fX6_7 rfl hM hM.2.1 ?_
    refine tt_bipush (nI 33) dX6_notPermitted_9 rfl ?_
    refine tt_ld1 dX6_notPermitted_11 hM (by omega) ?_
    refine tt_eq hw.2.1 ?_
    refine tt_icmp_geN (tgt := 51) dX6_notPermitted_12 (by decide) (by omega) (by omega) (fun c_12 => ?_) (fun c_12 => ?_)
    · exact absurd c_12 (by omega)
    · refine tt_iload_n dX6_notPermitted_15 rfl ?_
      refine tt_aload_n dX6_notPermitted_16 rfl ?_
      refine tt_mA (b := 182) dX6_notPermitted_17 fX6_7 rfl hM hM.2.1 ?_
      refine tt_iload_n dX6_notPermitted_20 rfl ?_
      refine tt_iconst (nI 2) dX6_notPermitted_21 rfl ?_
      refine tt_fSi (c_X6_of _ _ _) dX6_notPermitted_22 sX6_29 rfl rfl (by decide) ⟨rfl, rfl⟩ (Nat.zero_le _) (Nat.zero_le _) (Nat.le_of_ble_eq_true rfl) ?_
      refine tt_ld1 dX6_notPermitted_25 hM (by omega) ?_
      refine tt_iload_n dX6_notPermitted_26 rfl ?_
      refine tt_c2 (tgt := 43) (x := if s (34 + 10 * k + 2) = v ∧ ¬ (s (34 + 10 * k + 6) ≠ -6 ∧ s 8 ≤ s (34 + 10 * k + 6)) then nI 1 else nI 0) ?_ (fun key_43 => ?_)
      · refine tt_iadd dX6_notPermitted_43 ?_
        refine tt_istore_n dX6_notPermitted_44 rfl (Nat.le_of_ble_eq_true rfl) rfl ?_
        refine tt_iincN dX6_notPermitted_45 rfl rfl (Nat.le_of_ble_eq_true rfl) rfl ?_
        refine tt_goto (tgt := 4) dX6_notPermitted_48 (by decide) ?_
        exact ih
      · refine tt_icmp_ne (tgt := 42) dX6_notPermitted_27 (by decide) (fun c_27 => ?_) (fun c_27 => ?_)
        · refine tt_iconst (nI 0) dX6_notPermitted_42 rfl ?_
          exact key_43 _ (by first | exact (if_pos ⟨by assumption, by assumption⟩).symm | exact (if_neg (fun q => absurd q.1 (by assumption))).symm | exact (if_neg (fun q => q.2 (by assumption))).symm | simp_all)
        · refine tt_aload_n dX6_notPermitted_30 rfl ?_
          refine tt_iload_n dX6_notPermitted_31 rfl ?_
          refine tt_fVi (c_X6_isPermitted hM _ _ _ _ _ _ _ (by omega)) dX6_notPermitted_32 vX6_51 rfl rfl hM.1 (by decide) rfl (by decide) ⟨rfl, rfl⟩ (Nat.zero_le _) (Nat.zero_le _) (Nat.le_of_ble_eq_true rfl) ?_
          refine tt_if_neB (tgt := 42) dX6_notPermitted_35 (by decide) (fun c_35 => ?_) (fun c_35 => ?_)
          · refine tt_iconst (nI 0) dX6_notPermitted_42 rfl ?_
            exact key_43 _ (by first | exact (if_pos ⟨by assumption, by assumption⟩).symm | exact (if_neg (fun q => absurd q.1 (by assumption))).symm | exact (if_neg (fun q => q.2 (by assumption))).symm | simp_all)
          · refine tt_iconst (nI 1) dX6_notPermitted_38 rfl ?_
            refine tt_goto (tgt := 43) dX6_notPermitted_39 (by decide) ?_
            exact key_43 _ (by first | exact (if_pos ⟨by assumption, by assumption⟩).symm | exact (if_neg (fun q => absurd q.1 (by assumption))).symm | exact (if_neg (fun q => q.2 (by assumption))).symm | simp_all)
set_option maxRecDepth 100000 in
set_option maxHeartbeats 4000000 in
theorem c_X6_loads {h : zhp} (hM : zMo h) (F s a t l p : Nat → Int32) (n : Nat) (hw : sWF s n) (b : Int32) : MM iX6_loads [.ref 181, .int b] (zm h F s a t l p) (zfi (sLds s n b) (zm h F s a t l p)) := by
  refine MM_of (by decide +kernel) (Nat.le_of_ble_eq_true rfl) ?_
  refine tt_iconst (nI 0) dX6_loads_0 rfl ?_
  refine tt_istore_n dX6_loads_1 rfl (Nat.le_of_ble_eq_true rfl) rfl ?_
  refine tt_iconst (nI 0) dX6_loads_2 rfl ?_
  refine tt_istore_n dX6_loads_3 rfl (Nat.le_of_ble_eq_true rfl) rfl ?_
  refine tt_loop (fun j (x : Int32 × Option Value) => (x.1 + (if b = 0 then s (34 + 10 * j + 3) else if s (34 + 10 * j + 3) = nI 20 + nI 20 * s (34 + 10 * j + 1) then nI 1 else nI 0), some (.int (s (34 + 10 * j + 3))))) n (fun _ _ => True) (fun k x => [some (.ref 181), some (.int b), some (.int x.1), some (.int (nI k)), x.2]) (fun _ _ => zm h F s a t l p) (nI 0, none) trivial (fun _ _ _ _ => trivial) (fun hx => ?_) (fun k x hk hI ih => ?_)
  · have hn10 := hw.1
    refine tt_iload_n dX6_loads_4 rfl ?_
    refine tt_aload_n dX6_loads_5 rfl ?_
    refine tt_mA (b := 182) dX6_loads_6 fX6_7 rfl hM hM.2.1 ?_
    refine tt_bipush (nI 33) dX6_loads_9 rfl ?_
    refine tt_ld1 dX6_loads_11 hM (by omega) ?_
    refine tt_eq hw.2.1 ?_
    refine tt_icmp_geN (tgt := 60) dX6_loads_12 (by decide) (by omega) (by omega) (fun c_12 => ?_) (fun c_12 => ?_)
    · refine tt_iload_n dX6_loads_60 rfl ?_
      exact tt_ireturn dX6_loads_61 rfl rfl (Nat.zero_le _) (Nat.zero_le _) ⟨congrArg (fun z => some (Value.int z)) (zlp_fst (fun j x => x + (if b = 0 then s (34 + 10 * j + 3) else if s (34 + 10 * j + 3) = nI 20 + nI 20 * s (34 + 10 * j + 1) then nI 1 else nI 0)) (fun j => some (Value.int (s (34 + 10 * j + 3)))) n 0 (nI 0, none)), rfl⟩
    · exact absurd c_12 (by omega)
  · have hn10 := hw.1
    refine tt_iload_n dX6_loads_4 rfl ?_
    refine tt_aload_n dX6_loads_5 rfl ?_
    refine tt_mA (b := 182) dX6_loads_6 fX6_7 rfl hM hM.2.1 ?_
    refine tt_bipush (nI 33) dX6_loads_9 rfl ?_
    refine tt_ld1 dX6_loads_11 hM (by omega) ?_
    refine tt_eq hw.2.1 ?_
    refine tt_icmp_geN (tgt := 60) dX6_loads_12 (by decide) (by omega) (by omega) (fun c_12 => ?_) (fun c_12 => ?_)
    · exact absurd c_12 (by omega)
    · refine tt_aload_n dX6_loads_15 rfl ?_
      refine tt_mA (b := 182) dX6_loads_16 fX6_7 rfl hM hM.2.1 ?_
      refine tt_iload_n dX6_loads_19 rfl ?_
      refine tt_iconst (nI 3) dX6_loads_20 rfl ?_
      refine tt_fSi (c_X6_of _ _ _) dX6_loads_21 sX6_29 rfl rfl (by decide) ⟨rfl, rfl⟩ (Nat.zero_le _) (Nat.zero_le _) (Nat.le_of_ble_eq_true rfl) ?_
      refine tt_ld1 dX6_loads_24 hM (by omega) ?_
      refine tt_istore dX6_loads_25 rfl (Nat.le_of_ble_eq_true rfl) rfl ?_
      refine tt_iload_n dX6_loads_27 rfl ?_
      refine tt_iload_n dX6_loads_28 rfl ?_
      refine tt_c1 (tgt := 52) (x := if b = 0 then s (34 + 10 * k + 3) else if s (34 + 10 * k + 3) = nI 20 + nI 20 * s (34 + 10 * k + 1) then nI 1 else nI 0) ?_ (fun key_52 => ?_)
      · refine tt_iadd dX6_loads_52 ?_
        refine tt_istore_n dX6_loads_53 rfl (Nat.le_of_ble_eq_true rfl) rfl ?_
        refine tt_iincN dX6_loads_54 rfl rfl (Nat.le_of_ble_eq_true rfl) rfl ?_
        refine tt_goto (tgt := 4) dX6_loads_57 (by decide) ?_
        exact ih
      · refine tt_if_eq (tgt := 50) dX6_loads_29 (by decide) (fun c_29 => ?_) (fun c_29 => ?_)
        · refine tt_iload dX6_loads_50 rfl ?_
          exact key_52 _ (by simp only [*, if_true, if_false])
        · refine tt_iload dX6_loads_32 rfl ?_
          refine tt_aload_n dX6_loads_34 rfl ?_
          refine tt_iload_n dX6_loads_35 rfl ?_
          refine tt_fVi (c_X6_holds hM _ _ _ _ _ _ _ (by omega)) dX6_loads_36 vX6_57 rfl rfl hM.1 (by decide) rfl (by decide) ⟨rfl, rfl⟩ (Nat.zero_le _) (Nat.zero_le _) (Nat.le_of_ble_eq_true rfl) ?_
          refine tt_icmp_ne (tgt := 46) dX6_loads_39 (by decide) (fun c_39 => ?_) (fun c_39 => ?_)
          · refine tt_iconst (nI 0) dX6_loads_46 rfl ?_
            refine tt_goto (tgt := 52) dX6_loads_47 (by decide) ?_
            exact key_52 _ (by simp only [*, if_true, if_false])
          · refine tt_iconst (nI 1) dX6_loads_42 rfl ?_
            refine tt_goto (tgt := 52) dX6_loads_43 (by decide) ?_
            exact key_52 _ (by simp only [*, if_true, if_false])
set_option maxRecDepth 100000 in
set_option maxHeartbeats 4000000 in
theorem c_X6_sumOf {h : zhp} (hM : zMo h) (F s a t l p : Nat → Int32) (w : Nat) (hw : w < 3) : MM iX6_sumOf [.ref 181, .int (nI w)] (zm h F s a t l p) (zfi (sSum s w) (zm h F s a t l p)) := by
  refine MM_of (by decide +kernel) (Nat.le_of_ble_eq_true rfl) ?_
  refine tt_iconst (nI 0) dX6_sumOf_0 rfl ?_
  refine tt_istore_n dX6_sumOf_1 rfl (Nat.le_of_ble_eq_true rfl) rfl ?_
  refine tt_iconst (nI 0) dX6_sumOf_2 rfl ?_
  refine tt_istore_n dX6_sumOf_3 rfl (Nat.le_of_ble_eq_true rfl) rfl ?_
  refine tt_loop (fun c x => x + s (15 + 3 * c + w)) 6 (fun _ _ => True) (fun k x => [some (.ref 181), some (.int (nI w)), some (.int x), some (.int (nI k))]) (fun _ _ => zm h F s a t l p) (nI 0) trivial (fun _ _ _ _ => trivial) (fun hx => ?_) (fun k x hk hI ih => ?_)
  · refine tt_iload_n dX6_sumOf_4 rfl ?_
    refine tt_bipush (nI 6) dX6_sumOf_5 rfl ?_
    refine tt_icmp_geN (tgt := 29) dX6_sumOf_7 (by decide) (by omega) (by omega) (fun c_7 => ?_) (fun c_7 => ?_)
    · refine tt_iload_n dX6_sumOf_29 rfl ?_
      exact tt_ireturn dX6_sumOf_30 rfl rfl (Nat.zero_le _) (Nat.zero_le _) ⟨rfl, rfl⟩
    · exact absurd c_7 (by omega)
  · refine tt_iload_n dX6_sumOf_4 rfl ?_
    refine tt_bipush (nI 6) dX6_sumOf_5 rfl ?_
    refine tt_icmp_geN (tgt := 29) dX6_sumOf_7 (by decide) (by omega) (by omega) (fun c_7 => ?_) (fun c_7 => ?_)
    · exact absurd c_7 (by omega)
    · refine tt_iload_n dX6_sumOf_10 rfl ?_
      refine tt_aload_n dX6_sumOf_11 rfl ?_
      refine tt_mA (b := 182) dX6_sumOf_12 fX6_7 rfl hM hM.2.1 ?_
      refine tt_iload_n dX6_sumOf_15 rfl ?_
      refine tt_iload_n dX6_sumOf_16 rfl ?_
      refine tt_fSi (c_X6_ofCustomer _ _ _) dX6_sumOf_17 sX6_40 rfl rfl (by decide) ⟨rfl, rfl⟩ (Nat.zero_le _) (Nat.zero_le _) (Nat.le_of_ble_eq_true rfl) ?_
      refine tt_ld1 dX6_sumOf_20 hM (by omega) ?_
      refine tt_iadd dX6_sumOf_21 ?_
      refine tt_istore_n dX6_sumOf_22 rfl (Nat.le_of_ble_eq_true rfl) rfl ?_
      refine tt_iincN dX6_sumOf_23 rfl rfl (Nat.le_of_ble_eq_true rfl) rfl ?_
      refine tt_goto (tgt := 4) dX6_sumOf_26 (by decide) ?_
      exact ih
set_option maxRecDepth 100000 in
set_option maxHeartbeats 4000000 in
theorem c_X6_day {h : zhp} (hM : zMo h) (F s a t l p : Nat → Int32) (n : Nat) (hw : sWF s n) : MM iX6_day [.ref 181] (zm h F s a t l p) (zfn (zm h F (sDay s n) a t l p)) := by
  refine MM_of (by decide +kernel) (Nat.le_of_ble_eq_true rfl) ?_
  refine tt_aload_n dX6_day_0 rfl ?_
  refine tt_mA (b := 182) dX6_day_1 fX6_7 rfl hM hM.2.1 ?_
  refine tt_bipush (nI 8) dX6_day_4 rfl ?_
  refine tt_dup2 dX6_day_6 rfl rfl ?_
  refine tt_ld1 dX6_day_7 hM (by omega) ?_
  refine tt_iconst (nI 1) dX6_day_8 rfl ?_
  refine tt_iadd dX6_day_9 ?_
  refine tt_st1 dX6_day_10 hM (by omega) ?_
  refine tt_aload_n dX6_day_11 rfl ?_
  refine tt_mA (b := 182) dX6_day_12 fX6_7 rfl hM hM.2.1 ?_
  refine tt_bipush (nI 9) dX6_day_15 rfl ?_
  refine tt_iconst (nI 0) dX6_day_17 rfl ?_
  refine tt_st1 dX6_day_18 hM (by omega) ?_
  refine tt_iconst (nI 0) dX6_day_19 rfl ?_
  refine tt_istore_n dX6_day_20 rfl (Nat.le_of_ble_eq_true rfl) rfl ?_
  refine tt_loop (fun j x => sDo x j (cuN x j)) n (fun _ x => sWF x n) (fun k x => [some (.ref 181), some (.int (nI k))]) (fun _ x => zm h F x a t l p) (upd (upd s 8 (s 8 + nI 1)) 9 (nI 0)) (sDay0_WF hw) (fun k x hk hx => sDayI k x hk hx) (fun hx => ?_) (fun k x hk hI ih => ?_)
  · have hn10 := hw.1
    have h33 := hx.2.1
    refine tt_iload_n dX6_day_21 rfl ?_
    refine tt_aload_n dX6_day_22 rfl ?_
    refine tt_mA (b := 182) dX6_day_23 fX6_7 rfl hM hM.2.1 ?_
    refine tt_bipush (nI 33) dX6_day_26 rfl ?_
    refine tt_ld1 dX6_day_28 hM (by omega) ?_
    refine tt_eq h33 ?_
    refine tt_icmp_geN (tgt := 43) dX6_day_29 (by decide) (by omega) (by omega) (fun c_29 => ?_) (fun c_29 => ?_)
    · exact tt_return dX6_day_43 rfl (Nat.zero_le _) (Nat.zero_le _) ⟨rfl, rfl⟩
    · exact absurd c_29 (by omega)
  · have hn10 := hw.1
    have h33 := hI.2.1
    obtain ⟨c, hc, hcu⟩ := hI.2.2 k hk
    rw [cuN_eq hc hcu] at ih
    refine tt_iload_n dX6_day_21 rfl ?_
    refine tt_aload_n dX6_day_22 rfl ?_
    refine tt_mA (b := 182) dX6_day_23 fX6_7 rfl hM hM.2.1 ?_
    refine tt_bipush (nI 33) dX6_day_26 rfl ?_
    refine tt_ld1 dX6_day_28 hM (by omega) ?_
    refine tt_eq h33 ?_
    refine tt_icmp_geN (tgt := 43) dX6_day_29 (by decide) (by omega) (by omega) (fun c_29 => ?_) (fun c_29 => ?_)
    · exact absurd c_29 (by omega)
    · refine tt_aload_n dX6_day_32 rfl ?_
      refine tt_iload_n dX6_day_33 rfl ?_
      refine tt_fVv (c_X6_dayOf hM _ _ _ _ _ _ _ c (by omega) hc hcu) dX6_day_34 vX6_61 rfl rfl hM.1 (by decide) rfl (by decide) ⟨rfl, rfl⟩ (Nat.zero_le _) (Nat.zero_le _) (Nat.le_of_ble_eq_true rfl) ?_
      refine tt_iincN dX6_day_37 rfl rfl (Nat.le_of_ble_eq_true rfl) rfl ?_
      refine tt_goto (tgt := 21) dX6_day_40 (by decide) ?_
      exact ih
def sPs (s : Nat → Int32) (n d : Nat) : Nat → Int32 := zlp (fun _ x => sDay x n) d 0 s
def sPas (s : Nat → Int32) (n : Nat) (v : Int32) : Int32 × (Nat → Int32) := if nI 1 ≤ v ∧ v ≤ nI 99 then (if s 8 + v ≤ nI 9999 then (sSum (sPs s n v.toNatClampNeg) 0 - sSum s 0, sPs s n v.toNatClampNeg) else (-4, s)) else (-2, s)
theorem sPs_WF {s : Nat → Int32} {n d : Nat} (h : sWF s n) : sWF (sPs s n d) n := zlp_inv (fun _ x => sWF x n) d 0 s h (fun _ _ _ _ h3 => sDay_WF h3)
set_option maxRecDepth 100000 in
set_option maxHeartbeats 4000000 in
theorem c_X6_passes {h : zhp} (hM : zMo h) (F s a t l p : Nat → Int32) (n : Nat) (hw : sWF s n) (v : Int32) : MM iX6_passes [.ref 181, .int v] (zm h F s a t l p) (zfi (sPas s n v).1 (zm h F (sPas s n v).2 a t l p)) := by
  refine MM_of (by decide +kernel) (Nat.le_of_ble_eq_true rfl) ?_
  refine tt_iload_n dX6_passes_0 rfl ?_
  refine tt_iconst (nI 1) dX6_passes_1 rfl ?_
  refine tt_bipush (nI 99) dX6_passes_2 rfl ?_
  refine tt_fSi (c_X6_in _ _ _ _) dX6_passes_4 sX6_25 rfl rfl (by decide) ⟨rfl, rfl⟩ (Nat.zero_le _) (Nat.zero_le _) (Nat.le_of_ble_eq_true rfl) ?_
  refine tt_if_neB (tgt := 13) dX6_passes_7 (by decide) (fun c_7 => ?_) (fun c_7 => ?_)
  · refine tt_aload_n dX6_passes_13 rfl ?_
    refine tt_mA (b := 182) dX6_passes_14 fX6_7 rfl hM hM.2.1 ?_
    refine tt_bipush (nI 8) dX6_passes_17 rfl ?_
    refine tt_ld1 dX6_passes_19 hM (by omega) ?_
    refine tt_iload_n dX6_passes_20 rfl ?_
    refine tt_iadd dX6_passes_21 ?_
    refine tt_sipush (nI 9999) dX6_passes_22 rfl ?_
    refine tt_icmp_le (tgt := 31) dX6_passes_25 (by decide) (fun c_25 => ?_) (fun c_25 => ?_)
    · obtain ⟨d, hd, rfl⟩ := zrng (x := v) (b := 99) (by omega) ⟨Int32.le_trans (by decide) c_7.1, c_7.2⟩
      refine tt_aload_n dX6_passes_31 rfl ?_
      refine tt_iconst (nI 0) dX6_passes_32 rfl ?_
      refine tt_fVi (c_X6_sumOf hM _ _ _ _ _ _ _ (by omega)) dX6_passes_33 vX6_65 rfl rfl hM.1 (by decide) rfl (by decide) ⟨rfl, rfl⟩ (Nat.zero_le _) (Nat.zero_le _) (Nat.le_of_ble_eq_true rfl) ?_
      refine tt_istore_n dX6_passes_36 rfl (Nat.le_of_ble_eq_true rfl) rfl ?_
      refine tt_iconst (nI 0) dX6_passes_37 rfl ?_
      refine tt_istore_n dX6_passes_38 rfl (Nat.le_of_ble_eq_true rfl) rfl ?_
      refine tt_loop (fun _ x => sDay x n) d (fun _ x => sWF x n) (fun k _ => [some (.ref 181), some (.int (nI d)), some (.int (sSum s 0)), some (.int (nI k))]) (fun _ x => zm h F x a t l p) (s) hw (fun _ _ _ hx => sDay_WF hx) (fun hx => ?_) (fun k x hk hI ih => ?_)
      · refine tt_iload_n dX6_passes_39 rfl ?_
        refine tt_iload_n dX6_passes_40 rfl ?_
        refine tt_icmp_geN (tgt := 54) dX6_passes_41 (by decide) (by omega) (by omega) (fun c_41 => ?_) (fun c_41 => ?_)
        · refine tt_aload_n dX6_passes_54 rfl ?_
          refine tt_iconst (nI 0) dX6_passes_55 rfl ?_
          refine tt_fVi (c_X6_sumOf hM _ _ _ _ _ _ _ (by omega)) dX6_passes_56 vX6_65 rfl rfl hM.1 (by decide) rfl (by decide) ⟨rfl, rfl⟩ (Nat.zero_le _) (Nat.zero_le _) (Nat.le_of_ble_eq_true rfl) ?_
          refine tt_iload_n dX6_passes_59 rfl ?_
          refine tt_isub dX6_passes_60 ?_
          exact tt_ireturn dX6_passes_61 rfl rfl (Nat.zero_le _) (Nat.zero_le _) ⟨by unfold sPas; rw [if_pos c_7, if_pos c_25, nI_clamp (by omega)]; rfl, by unfold sPas; rw [if_pos c_7, if_pos c_25, nI_clamp (by omega)]; rfl⟩
        · exact absurd c_41 (by omega)
      · refine tt_iload_n dX6_passes_39 rfl ?_
        refine tt_iload_n dX6_passes_40 rfl ?_
        refine tt_icmp_geN (tgt := 54) dX6_passes_41 (by decide) (by omega) (by omega) (fun c_41 => ?_) (fun c_41 => ?_)
        · exact absurd c_41 (by omega)
        · refine tt_aload_n dX6_passes_44 rfl ?_
          refine tt_fVv (c_X6_day hM _ _ _ _ _ _ n hI) dX6_passes_45 vX6_68 rfl rfl hM.1 (by decide) rfl (by decide) ⟨rfl, rfl⟩ (Nat.zero_le _) (Nat.zero_le _) (Nat.le_of_ble_eq_true rfl) ?_
          refine tt_iincN dX6_passes_48 rfl rfl (Nat.le_of_ble_eq_true rfl) rfl ?_
          refine tt_goto (tgt := 39) dX6_passes_51 (by decide) ?_
          exact ih
    · refine tt_bipush (-4) dX6_passes_28 rfl ?_
      exact tt_ireturn dX6_passes_30 rfl rfl (Nat.zero_le _) (Nat.zero_le _) ⟨by unfold sPas; rw [if_pos c_7, if_neg c_25], by unfold sPas; rw [if_pos c_7, if_neg c_25]⟩
  · refine tt_bipush (-2) dX6_passes_10 rfl ?_
    exact tt_ireturn dX6_passes_12 rfl rfl (Nat.zero_le _) (Nat.zero_le _) ⟨by unfold sPas; rw [if_neg c_7], by unfold sPas; rw [if_neg c_7]⟩
