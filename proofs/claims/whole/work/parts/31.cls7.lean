/-! the class: undo; the pad -/
/-- the pad: L signs of q -/
def zPd (h : zhp) (q : Nat → Int32) (m : Nat) : Prop := (zT h 143 = 1 ∧ zR h 143 0 = some 144 ∧ zT h 144 = 9 ∧ zL h 144 = 60) ∧ zI h 143 1 = nI m ∧ pOK q m ∧ ∀ k, k < m → zI h 144 k = q k
theorem zc_nar : ∀ c, c < 127 → narrow .char (.int (nI c)) = .int (nI c) := by decide
theorem zc_i2c : ∀ c, c < 127 → ((nI c).toUInt32 % 65536).toInt32 = nI c := by decide
def zat2 (q : Nat → Int32) (m k : Nat) : Int32 := if k < m then q k else nI 0
theorem zat2_c {q : Nat → Int32} {m : Nat} (h : pOK q m) (k : Nat) : ∃ c, c < 127 ∧ zat2 q m k = nI c := by
  unfold zat2
  split
  · next hk =>
    obtain ⟨c, h1, h2, h3⟩ := h.2 k hk
    exact ⟨c, by omega, h3⟩
  · exact ⟨0, by omega, rfl⟩
def uCd (y : Int64) (k : Nat) : Int32 := ((y.toUInt64 >>> ((nI (8 * k)).toInt64.toUInt64 &&& Int64.toUInt64 63)).toInt64).toInt32 &&& nI 255
def uSh (y : Int64) (k : Nat) : Int64 := (y.toUInt64 >>> ((nI (8 * k)).toInt64.toUInt64 &&& Int64.toUInt64 63)).toInt64
/-- how many signs a long brings, 0 if one of them is none -/
def uSi (y : Int64) : Nat → Nat → Nat
  | 0, _ => 8
  | r + 1, k => if lg_cmp (uSh y k) 0 = 0 then k else if nI 33 ≤ uCd y k ∧ uCd y k ≤ nI 126 then uSi y r (k + 1) else 0
theorem uSi_ok {y : Int64} : ∀ (r k m : Nat), uSi y r k = m → k + r = 8 → m ≠ 0 → k ≤ m ∧ m ≤ 8 ∧ ∀ j, k ≤ j → j < m → ∃ c, c < 127 ∧ 33 ≤ c ∧ uCd y j = nI c
  | 0, k, m, h, hk, _ => by
    have h : 8 = m := h
    exact ⟨by omega, by omega, fun j h1 h2 => by omega⟩
  | r + 1, k, m, h, hk, h0 => by
    unfold uSi at h
    split at h
    · exact ⟨by omega, by omega, fun j h1 h2 => by omega⟩
    · split at h
      · next q =>
        obtain ⟨a1, a2, a3⟩ := uSi_ok r (k + 1) m h (by omega) h0
        refine ⟨by omega, a2, fun j h1 h2 => ?_⟩
        by_cases e : j = k
        · subst e
          obtain ⟨c, hc, he⟩ := zrng (x := uCd y j) (b := 126) (by omega) ⟨Int32.le_trans (by decide) q.1, q.2⟩
          refine ⟨c, by omega, ?_, he⟩
          rw [he] at q
          exact (nI_leI (by omega) (by omega)).mp q.1
        · exact a3 j (by omega) h2
      · exact absurd h.symm h0
/-- behind the signs that came -/
def uAp (h : zhp) (y : Int64) (m a : Nat) : zhp := zlp (fun k x => zsI (zsI x 144 (m + k) (uCd y (a - 1 - k))) 143 1 (nI (m + k + 1))) a 0 h
theorem zdn {a : Nat} : nI (a + 1) - nI 1 = nI a := pk_sub (by omega)
set_option maxRecDepth 100000 in
set_option maxHeartbeats 4000000 in
theorem c_X1_signAt {h : zhp} {q : Nat → Int32} {m : Nat} (hP : zPd h q m) (k : Nat) (hk : k ≤ 60) : MM iX1_signAt [.ref 143, .int (nI k)] h (zfi (zat2 q m k) h) := by
  have hm := hP.2.2.1.1
  refine MM_of (by decide +kernel) (Nat.le_of_ble_eq_true rfl) ?_
  refine tt_iload_n dX1_signAt_0 rfl ?_
  refine tt_if_lt (tgt := 21) dX1_signAt_1 (by decide) (fun c_1 => ?_) (fun c_1 => ?_)
  · exact absurd c_1 (znn (by omega))
  · refine tt_iload_n dX1_signAt_4 rfl ?_
    refine tt_aload_n dX1_signAt_5 rfl ?_
    refine tt_getI dX1_signAt_6 fX1_15 rfl hP.1.1 ?_
    refine tt_eq hP.2.1 ?_
    refine tt_icmp_geN (tgt := 21) dX1_signAt_9 (by decide) (by omega) (by omega) (fun c_9 => ?_) (fun c_9 => ?_)
    · refine tt_iconst (nI 0) dX1_signAt_21 rfl ?_
      obtain ⟨ch, hch, hce⟩ := zat2_c hP.2.2.1 k
      exact tt_ireturn dX1_signAt_22 rfl (by first | (rw [hce]; exact zc_nar ch hch) | exact zc_nar 0 (by omega)) (Nat.zero_le _) (Nat.zero_le _) (by first | exact ⟨rfl, rfl⟩ | exact ⟨congrArg (fun z => some (Value.int z)) (if_neg (by omega)).symm, rfl⟩)
    · refine tt_aload_n dX1_signAt_12 rfl ?_
      refine tt_getR dX1_signAt_13 fX1_9 rfl hP.1.1 hP.1.2.1 ?_
      refine tt_iload_n dX1_signAt_16 rfl ?_
      refine tt_cald dX1_signAt_17 hP.1.2.2.1 (by decide) (vp_in_nI (by rw [hP.1.2.2.2]; omega) (by rw [hP.1.2.2.2]; omega)) ?_
      rw [nI_clamp (by omega), hP.2.2.2 k c_9]
      refine tt_eq (show q k = zat2 q m k from (if_pos c_9).symm) ?_
      refine tt_goto (tgt := 22) dX1_signAt_18 (by decide) ?_
      obtain ⟨ch, hch, hce⟩ := zat2_c hP.2.2.1 k
      exact tt_ireturn dX1_signAt_22 rfl (by first | (rw [hce]; exact zc_nar ch hch) | exact zc_nar 0 (by omega)) (Nat.zero_le _) (Nat.zero_le _) (by first | exact ⟨rfl, rfl⟩ | exact ⟨congrArg (fun z => some (Value.int z)) (if_neg (by omega)).symm, rfl⟩)
set_option maxRecDepth 100000 in
set_option maxHeartbeats 4000000 in
theorem c_X1_empty {h : zhp} {q : Nat → Int32} {m : Nat} (hP : zPd h q m) : MM iX1_empty [.ref 143] h (zfi (nI m) (zsI h 143 1 (nI 0))) := by
  refine MM_of (by decide +kernel) (Nat.le_of_ble_eq_true rfl) ?_
  refine tt_aload_n dX1_empty_0 rfl ?_
  refine tt_getI dX1_empty_1 fX1_15 rfl hP.1.1 ?_
  refine tt_eq hP.2.1 ?_
  refine tt_istore_n dX1_empty_4 rfl (Nat.le_of_ble_eq_true rfl) rfl ?_
  refine tt_aload_n dX1_empty_5 rfl ?_
  refine tt_iconst (nI 0) dX1_empty_6 rfl ?_
  refine tt_putI dX1_empty_7 fX1_15 rfl rfl rfl rfl hP.1.1 ?_
  refine tt_iload_n dX1_empty_10 rfl ?_
  exact tt_ireturn dX1_empty_11 rfl rfl (Nat.zero_le _) (Nat.zero_le _) ⟨rfl, rfl⟩
set_option maxRecDepth 100000 in
set_option maxHeartbeats 4000000 in
theorem c_X1_codeAt (y : Int64) (k : Nat) (h : zhp) : MM iX1_codeAt [.long y, .int (nI k)] h (zfi (uCd y k) h) := by
  refine MM_of (by decide +kernel) (Nat.le_of_ble_eq_true rfl) ?_
  refine tt_lload_n dX1_codeAt_0 rfl ?_
  refine tt_bipush (nI 8) dX1_codeAt_1 rfl ?_
  refine tt_iload_n dX1_codeAt_3 rfl ?_
  refine tt_imulN dX1_codeAt_4 ?_
  refine tt_lushr dX1_codeAt_5 ?_
  refine tt_l2i dX1_codeAt_6 ?_
  refine tt_sipush (nI 255) dX1_codeAt_7 rfl ?_
  refine tt_iand dX1_codeAt_10 ?_
  exact tt_ireturn dX1_codeAt_11 rfl rfl (Nat.zero_le _) (Nat.zero_le _) ⟨rfl, rfl⟩
set_option maxRecDepth 100000 in
set_option maxHeartbeats 4000000 in
theorem g_X1_signsIn_s (y : Int64) (h : zhp) (r : Nat) (ih : ∀ k, k + r = 8 → TT iX1_signsIn 2 [some (.long y), none, some (.int (nI k))] [] h 0 0 (zfi (nI (uSi y r k)) h)) (k : Nat) (hk : k + (r + 1) = 8) : TT iX1_signsIn 2 [some (.long y), none, some (.int (nI k))] [] h 0 0 (zfi (nI (uSi y (r + 1) k)) h) := by
  refine tt_iload_n dX1_signsIn_2 rfl ?_
  refine tt_bipush (nI 8) dX1_signsIn_3 rfl ?_
  refine tt_icmp_geN (tgt := 44) dX1_signsIn_5 (by decide) (by omega) (by omega) (fun c_5 => ?_) (fun c_5 => ?_)
  · exact absurd c_5 (by omega)
  · refine tt_lload_n dX1_signsIn_8 rfl ?_
    refine tt_bipush (nI 8) dX1_signsIn_9 rfl ?_
    refine tt_iload_n dX1_signsIn_11 rfl ?_
    refine tt_imulN dX1_signsIn_12 ?_
    refine tt_lushr dX1_signsIn_13 ?_
    refine tt_lconst 0 dX1_signsIn_14 rfl ?_
    refine tt_lcmp dX1_signsIn_15 ?_
    refine tt_if_ne (tgt := 21) dX1_signsIn_16 (by decide) (fun c_16 => ?_) (fun c_16 => ?_)
    · refine tt_lload_n dX1_signsIn_21 rfl ?_
      refine tt_iload_n dX1_signsIn_22 rfl ?_
      refine tt_fSi (c_X1_codeAt _ _ _) dX1_signsIn_23 sX1_23 rfl rfl (by decide) ⟨rfl, rfl⟩ (Nat.zero_le _) (Nat.zero_le _) (Nat.le_of_ble_eq_true rfl) ?_
      refine tt_bipush (nI 33) dX1_signsIn_26 rfl ?_
      refine tt_bipush (nI 126) dX1_signsIn_28 rfl ?_
      refine tt_fSNi (c_X5_isWithin _ _ _ _) dX1_signsIn_30 sX1_27 rfl rfl (by decide) ⟨rfl, rfl⟩ (Nat.zero_le _) (Nat.zero_le _) (Nat.le_of_ble_eq_true rfl) ?_
      refine tt_if_neB (tgt := 38) dX1_signsIn_33 (by decide) (fun c_33 => ?_) (fun c_33 => ?_)
      · refine tt_iincN dX1_signsIn_38 rfl rfl (Nat.le_of_ble_eq_true rfl) rfl ?_
        refine tt_goto (tgt := 2) dX1_signsIn_41 (by decide) ?_
        rw [show uSi y (r + 1) k = uSi y r (k + 1) from (if_neg c_16).trans (if_pos c_33)]
        exact ih (k + 1) (by omega)
      · refine tt_iconst (nI 0) dX1_signsIn_36 rfl ?_
        exact tt_ireturn dX1_signsIn_37 rfl rfl (Nat.zero_le _) (Nat.zero_le _) (by first | (rw [show uSi y (r + 1) k = k from if_pos c_16]; exact ⟨rfl, rfl⟩) | (rw [show uSi y (r + 1) k = 0 from (if_neg c_16).trans (if_neg c_33)]; exact ⟨rfl, rfl⟩))
    · refine tt_iload_n dX1_signsIn_19 rfl ?_
      exact tt_ireturn dX1_signsIn_20 rfl rfl (Nat.zero_le _) (Nat.zero_le _) (by first | (rw [show uSi y (r + 1) k = k from if_pos c_16]; exact ⟨rfl, rfl⟩) | (rw [show uSi y (r + 1) k = 0 from (if_neg c_16).trans (if_neg c_33)]; exact ⟨rfl, rfl⟩))
set_option maxRecDepth 100000 in
set_option maxHeartbeats 4000000 in
theorem g_X1_signsIn_e (y : Int64) (h : zhp) (k : Nat) (hk : k + 0 = 8) : TT iX1_signsIn 2 [some (.long y), none, some (.int (nI k))] [] h 0 0 (zfi (nI (uSi y 0 k)) h) := by
  refine tt_iload_n dX1_signsIn_2 rfl ?_
  refine tt_bipush (nI 8) dX1_signsIn_3 rfl ?_
  refine tt_icmp_geN (tgt := 44) dX1_signsIn_5 (by decide) (by omega) (by omega) (fun c_5 => ?_) (fun c_5 => ?_)
  · refine tt_bipush (nI 8) dX1_signsIn_44 rfl ?_
    exact tt_ireturn dX1_signsIn_46 rfl rfl (Nat.zero_le _) (Nat.zero_le _) ⟨rfl, rfl⟩
  · exact absurd c_5 (by omega)
theorem g_X1_signsIn (y : Int64) (h : zhp) : ∀ (r k : Nat), k + r = 8 → TT iX1_signsIn 2 [some (.long y), none, some (.int (nI k))] [] h 0 0 (zfi (nI (uSi y r k)) h)
  | 0, k, hk => g_X1_signsIn_e y h k hk
  | r + 1, k, hk => g_X1_signsIn_s y h r (g_X1_signsIn y h r) k hk
set_option maxRecDepth 100000 in
set_option maxHeartbeats 4000000 in
theorem c_X1_signsIn (y : Int64) (h : zhp) : MM iX1_signsIn [.long y] h (zfi (nI (uSi y 8 0)) h) := by
  refine MM_of (by decide +kernel) (Nat.le_of_ble_eq_true rfl) ?_
  refine tt_iconst (nI 0) dX1_signsIn_0 rfl ?_
  refine tt_istore_n dX1_signsIn_1 rfl (Nat.le_of_ble_eq_true rfl) rfl ?_
  exact g_X1_signsIn y h 8 0 rfl
def zAI (h : zhp) (m k : Nat) (x : zhp) : Prop := zT x 143 = 1 ∧ zR x 143 0 = some 144 ∧ zT x 144 = 9 ∧ zL x 144 = 60 ∧ zI x 143 1 = nI (m + k)
/-- append(y): what it answers, and the heap behind it -/
def uPp (h : zhp) (y : Int64) (m : Nat) : Int32 × zhp := if uSi y 8 0 = 0 then (-2, h) else if m + uSi y 8 0 ≤ 60 then (nI (m + uSi y 8 0), uAp h y m (uSi y 8 0)) else (-4, h)
theorem zsI_at {h : zhp} {a k : Nat} {v : Int32} : zI (zsI h a k v) a k = v := if_pos ⟨rfl, rfl⟩
theorem zsI_ne {h : zhp} {a k x j : Nat} {v : Int32} (hx : x ≠ a ∨ j ≠ k) : zI (zsI h a k v) x j = zI h x j := if_neg (fun q => hx.elim (fun z => z q.1) (fun z => z q.2))
theorem uSi_le {y : Int64} : ∀ (r k : Nat), k + r = 8 → uSi y r k ≤ 8
  | 0, _, _ => Nat.le_refl _
  | r + 1, k, h => by
    unfold uSi
    split
    · omega
    · split
      · exact uSi_le r (k + 1) (by omega)
      · omega
theorem znz {a : Nat} (h : nI a = 0) (ha : a < 2 ^ 31) : a = 0 := by
  rcases Nat.eq_zero_or_pos a with q | q
  · exact q
  · have h1 : (0 : Int32) < nI a := (nI_ltI (a := 0) (by omega) ha).mpr q
    rw [h] at h1
    exact absurd h1 (by decide)
set_option maxRecDepth 100000 in
set_option maxHeartbeats 4000000 in
theorem c_X1_append {h : zhp} {q : Nat → Int32} {m : Nat} (hP : zPd h q m) (y : Int64) : MM iX1_append [.ref 143, .long y] h (zfi (uPp h y m).1 (uPp h y m).2) := by
  obtain ⟨a, ha⟩ : ∃ a, uSi y 8 0 = a := ⟨_, rfl⟩
  have ha8 : a ≤ 8 := by rw [← ha]; exact uSi_le 8 0 rfl
  have hm60 := hP.2.2.1.1
  refine MM_of (by decide +kernel) (Nat.le_of_ble_eq_true rfl) ?_
  refine tt_lload_n dX1_append_0 rfl ?_
  refine tt_fSi (c_X1_signsIn _ _) dX1_append_1 sX1_19 rfl rfl (by decide) ⟨rfl, rfl⟩ (Nat.zero_le _) (Nat.zero_le _) (Nat.le_of_ble_eq_true rfl) ?_
  rw [ha]
  refine tt_istore_n dX1_append_4 rfl (Nat.le_of_ble_eq_true rfl) rfl ?_
  refine tt_iload_n dX1_append_5 rfl ?_
  refine tt_if_ne (tgt := 12) dX1_append_6 (by decide) (fun c_6 => ?_) (fun c_6 => ?_)
  · refine tt_aload_n dX1_append_12 rfl ?_
    refine tt_getI dX1_append_13 fX1_15 rfl hP.1.1 ?_
    refine tt_eq hP.2.1 ?_
    refine tt_iload_n dX1_append_16 rfl ?_
    refine tt_iaddN dX1_append_17 ?_
    refine tt_bipush (nI 60) dX1_append_18 rfl ?_
    refine tt_icmp_leN (tgt := 26) dX1_append_20 (by decide) (by omega) (by omega) (fun c_20 => ?_) (fun c_20 => ?_)
    · have ha1 : a ≠ 0 := fun q => c_6 (by rw [q]; rfl)
      obtain ⟨-, -, hch⟩ := uSi_ok 8 0 _ ha rfl (fun q => c_6 (by rw [q]; rfl))
      refine tt_iload_n dX1_append_26 rfl ?_
      refine tt_iconst (nI 1) dX1_append_27 rfl ?_
      refine tt_isub dX1_append_28 ?_
      refine tt_istore dX1_append_29 rfl (Nat.le_of_ble_eq_true rfl) rfl ?_
      refine tt_loop (fun k x => zsI (zsI x 144 (m + k) (uCd y (a - 1 - k))) 143 1 (nI (m + k + 1))) a (fun k x => zAI h m k x) (fun k x => [some (.ref 143), some (.long y), none, some (.int (nI a)), some (.int (nI (a - k) - nI 1))]) (fun _ x => x) h ⟨hP.1.1, hP.1.2.1, hP.1.2.2.1, hP.1.2.2.2, hP.2.1⟩ (fun k x _ hx => ⟨hx.1, hx.2.1, hx.2.2.1, hx.2.2.2.1, zsI_at⟩) (fun hx => ?_) (fun k x hk hI ih => ?_)
      · have hI := hx
        refine tt_iload dX1_append_31 rfl ?_
        refine tt_if_lt (tgt := 68) dX1_append_33 (by decide) (fun c_33 => ?_) (fun c_33 => ?_)
        · refine tt_aload_n dX1_append_68 rfl ?_
          refine tt_getI dX1_append_69 fX1_15 rfl hI.1 ?_
          refine tt_eq hI.2.2.2.2 ?_
          exact tt_ireturn dX1_append_72 rfl rfl (Nat.zero_le _) (Nat.zero_le _) (by unfold uPp; rw [ha, if_neg (fun q => c_6 (by rw [q]; rfl)), if_pos c_20]; exact ⟨rfl, rfl⟩)
        · exact absurd (show nI (a - a) - nI 1 < 0 by rw [Nat.sub_self]; decide) c_33
      · obtain ⟨ch, hc127, hc33, hce⟩ := hch (a - 1 - k) (by omega) (by omega)
        have e4 : nI (a - k) - nI 1 = nI (a - 1 - k) := by rw [pk_sub (by omega), show a - k - 1 = a - 1 - k by omega]
        rw [e4]
        refine tt_iload dX1_append_31 rfl ?_
        refine tt_if_lt (tgt := 68) dX1_append_33 (by decide) (fun c_33 => ?_) (fun c_33 => ?_)
        · exact absurd c_33 (znn (by omega))
        · refine tt_aload_n dX1_append_36 rfl ?_
          refine tt_getR dX1_append_37 fX1_9 rfl hI.1 hI.2.1 ?_
          refine tt_aload_n dX1_append_40 rfl ?_
          refine tt_getI dX1_append_41 fX1_15 rfl hI.1 ?_
          refine tt_eq hI.2.2.2.2 ?_
          refine tt_lload_n dX1_append_44 rfl ?_
          refine tt_iload dX1_append_45 rfl ?_
          refine tt_fSi (c_X1_codeAt _ _ _) dX1_append_47 sX1_23 rfl rfl (by decide) ⟨rfl, rfl⟩ (Nat.zero_le _) (Nat.zero_le _) (Nat.le_of_ble_eq_true rfl) ?_
          refine tt_i2c dX1_append_50 ?_
          refine tt_eq (show _ = uCd y (a - 1 - k) by rw [hce]; exact zc_i2c ch hc127) ?_
          refine tt_cast dX1_append_51 hI.2.2.1 (by decide) (vp_in_nI (by rw [hI.2.2.2.1]; omega) (by rw [hI.2.2.2.1]; omega)) (by rw [hce]; exact zc_nar ch hc127) ?_
          rw [nI_clamp (by omega)]
          refine tt_aload_n dX1_append_52 rfl ?_
          refine tt_dup dX1_append_53 rfl ?_
          refine tt_getI dX1_append_54 fX1_15 rfl hI.1 ?_
          refine tt_eq hI.2.2.2.2 ?_
          refine tt_iconst (nI 1) dX1_append_57 rfl ?_
          refine tt_iaddN dX1_append_58 ?_
          refine tt_putI dX1_append_59 fX1_15 rfl rfl rfl rfl hI.1 ?_
          refine tt_iinc dX1_append_62 rfl (show nI (a - 1 - k) + Int32.ofInt (-1) = nI (a - (k + 1)) - nI 1 by rw [show a - (k + 1) = a - 1 - k by omega, Int32.sub_eq_add_neg]; rfl) rfl (Nat.le_of_ble_eq_true rfl) rfl ?_
          refine tt_goto (tgt := 31) dX1_append_65 (by decide) ?_
          exact ih
    · refine tt_bipush (-4) dX1_append_23 rfl ?_
      exact tt_ireturn dX1_append_25 rfl rfl (Nat.zero_le _) (Nat.zero_le _) (by unfold uPp; rw [ha, if_neg (fun q => c_6 (by rw [q]; rfl)), if_neg (by omega)]; exact ⟨rfl, rfl⟩)
  · refine tt_bipush (-2) dX1_append_9 rfl ?_
    exact tt_ireturn dX1_append_11 rfl rfl (Nat.zero_le _) (Nat.zero_le _) (by unfold uPp; rw [ha, if_pos (znz c_6 (by omega))]; exact ⟨rfl, rfl⟩)
