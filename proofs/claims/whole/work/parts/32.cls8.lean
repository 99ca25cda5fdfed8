/-! the class: the reader, a sign, a digit, a number -/
def zr (h : zhp) (r : Nat) (R : Nat → Int32) : zhp := (h.1, h.2.1, h.2.2.1, fun x k => if x = r then R k else h.2.2.2.1 x k, h.2.2.2.2)
def zRd (h : zhp) (r : Nat) (q : Nat → Int32) (m : Nat) : Prop := 187 ≤ r ∧ zT h r = 2 ∧ zR h r 0 = some 143 ∧ zPd h q m
theorem zr_Pd {h : zhp} {r : Nat} {q R : Nat → Int32} {m : Nat} (hR : zRd h r q m) : zPd (zr h r R) q m := by
  obtain ⟨h1, h2, h3, h4, h5, h6, h7⟩ := hR
  exact ⟨h4, (if_neg (by omega)).trans h5, h6, fun k hk => (if_neg (by omega)).trans (h7 k hk)⟩
theorem zr_set (h : zhp) (r : Nat) (R : Nat → Int32) (k : Nat) (v : Int32) : zsI (zr h r R) r k v = zr h r (upd R k v) := by
  unfold zsI zr
  congr 4
  funext x j
  show (if x = r ∧ j = k then v else if x = r then R j else h.2.2.2.1 x j) = if x = r then upd R k v j else h.2.2.2.1 x j
  by_cases hx : x = r
  · by_cases hj : j = k
    · rw [if_pos ⟨hx, hj⟩, if_pos hx, hj, pk_us]
    · rw [if_neg (fun q => hj q.2), if_pos hx, if_pos hx, pk_un hj]
  · rw [if_neg (fun q => hx q.1), if_neg hx, if_neg hx]
section
variable {i j : zmi} {pc : Nat} {L : List (Option Value)} {st stk : List Value} {h h0 : zhp} {cc sc : Nat} {Q : Option Value → zhp → Prop} {av : List Value} {r m : Nat} {q R : Nat → Int32}
theorem tt_rI {fk idx : Nat} (d : decode (mC i) pc = .ok (.getfield idx, 3)) (f : zFL (mY i).cls idx 2 fk) (hr : zisR (zty 2 fk) = false) (hR : zRd h r q m) (kt : TT i (pc + 3) L (.int (R fk) :: st) (zr h r R) cc sc Q) : TT i pc L (.ref r :: st) (zr h r R) cc sc Q := by
  refine tt_getI d f hr hR.2.1 ?_
  rw [show zI (zr h r R) r fk = R fk from if_pos rfl]
  exact kt
theorem tt_rp {k idx : Nat} {v : Int32} (d : decode (mC i) pc = .ok (.putfield idx, 3)) (f : zFL (mY i).cls idx 2 k) (hr : zty 2 k = .int) (hfin : (TX2 k).2.2.2 = false) (hR : zRd h r q m) (kt : TT i (pc + 3) L st (zr h r (upd R k v)) cc sc Q) : TT i pc L (.int v :: .ref r :: st) (zr h r R) cc sc Q := tt_putI d f (by rw [hr]; rfl) (by rw [hr]; rfl) (by rw [hr]; rfl) hfin hR.2.1 (by
  rw [zr_set]; exact kt)
theorem tt_rpZ {k idx : Nat} {v : Int32} (d : decode (mC i) pc = .ok (.putfield idx, 3)) (f : zFL (mY i).cls idx 2 k) (hr : zty 2 k = .boolean) (hv : v = 0 ∨ v = 1) (hfin : (TX2 k).2.2.2 = false) (hR : zRd h r q m) (kt : TT i (pc + 3) L st (zr h r (upd R k v)) cc sc Q) : TT i pc L (.int v :: .ref r :: st) (zr h r R) cc sc Q := tt_putI d f (by rw [hr]; rfl) (by rw [hr]; rcases hv with rfl | rfl <;> rfl) (by rw [hr]; rcases hv with rfl | rfl <;> rfl) hfin hR.2.1 (by
  rw [zr_set]; exact kt)
end
def rS (R : Nat → Int32) (k : Nat) (f : Bool) : Nat → Int32 := upd (upd R 1 (nI k)) 8 (zb (f = true))
theorem rS_ok {R : Nat → Int32} {k : Nat} {f : Bool} (h8 : R 8 = zb (f = true)) (hf : ¬ f = true) : upd R 1 (nI k) = rS R k false := by
  funext i
  unfold rS
  by_cases h : i = 8
  · subst h
    rw [pk_us, pk_un (by omega), h8]
    exact (zb_f hf).trans (zb_f (by decide)).symm
  · rw [pk_un h]
theorem rS_bad {R : Nat → Int32} {k : Nat} (h1 : R 1 = nI k) : upd R 8 (nI 1) = rS R k true := by
  funext i
  unfold rS
  by_cases h : i = 8
  · subst h
    rw [pk_us, pk_us]
    rfl
  · rw [pk_un h, pk_un h]
    by_cases h2 : i = 1
    · subst h2
      rw [pk_us, h1]
    · rw [pk_un h2]
theorem tkS_y {q : Nat → Int32} {m k : Nat} {f : Bool} {sg : Int32} (hf : ¬ f = true) (hs : zat2 q m k = sg) (h0 : ¬ sg = nI 0) : (tk q m sg sg k f).2 = (k + 1, false) := by
  unfold zat2 at hs
  have hk : k < m := by
    rcases Nat.lt_or_ge k m with z | z
    · exact z
    · rw [if_neg (by omega)] at hs
      exact absurd hs.symm h0
  rw [if_pos hk] at hs
  unfold tk
  rw [if_pos ⟨Bool.not_eq_true _ |>.mp hf, hk, by rw [hs]; exact ⟨Int32.le_refl _, Int32.le_refl _⟩⟩]
theorem tkS_n {q : Nat → Int32} {m k : Nat} {f : Bool} {sg : Int32} (h : f = true ∨ ¬ zat2 q m k = sg) : (tk q m sg sg k f).2 = (k, true) := by
  unfold tk
  rw [if_neg]
  rintro ⟨h1, h2, h3, h4⟩
  rcases h with h | h
  · rw [h1] at h; cases h
  · refine h ?_
    unfold zat2
    rw [if_pos h2]
    exact Int32.le_antisymm h4 h3
theorem zneg : ∀ c, c < 48 → nI c - nI 48 < 0 := by decide
theorem zdig {c lo hi : Nat} (hc : c < 127) (hh : hi ≤ 9) : (nI lo ≤ nI c - nI 48 ∧ nI c - nI 48 ≤ nI hi) ↔ 48 + lo ≤ c ∧ c ≤ 48 + hi ∨ (2 ^ 31 ≤ lo ∧ nI lo ≤ nI c - nI 48 ∧ nI c - nI 48 ≤ nI hi) := by
  by_cases hl : lo < 2 ^ 31
  · rcases Nat.lt_or_ge c 48 with z | z
    · refine ⟨fun q => ?_, fun q => by omega⟩
      have h1 := zneg c z
      have h2 : nI 0 ≤ nI lo := (nI_leI (by omega) hl).mpr (by omega)
      exact absurd h1 (Int32.not_lt.mpr (Int32.le_trans h2 q.1))
    · rw [pk_sub z, nI_leI hl (by omega), nI_leI (by omega) (by omega)]
      omega
  · exact ⟨fun q => Or.inr ⟨by omega, q⟩, fun q => q.elim (fun z => by omega) (fun z => z.2)⟩
theorem tkD_y {q : Nat → Int32} {m k lo hi : Nat} {f : Bool} (ho : pOK q m) (hl : lo ≤ 9) (hh : hi ≤ 9) (hf : ¬ f = true) (hs : nI lo ≤ zat2 q m k - nI 48 ∧ zat2 q m k - nI 48 ≤ nI hi) : tk q m (nI (48 + lo)) (nI (48 + hi)) k f = (zat2 q m k - nI 48 - nI lo, k + 1, false) ∧ ∃ d, d ≤ 9 ∧ lo ≤ d ∧ d ≤ hi ∧ zat2 q m k - nI 48 = nI d := by
  obtain ⟨c, hc, hce⟩ := zat2_c ho k
  rw [hce] at hs ⊢
  have h1 := (zdig hc hh).mp hs
  have hk : k < m := by
    rcases Nat.lt_or_ge k m with z | z
    · exact z
    · unfold zat2 at hce
      rw [if_neg (by omega)] at hce
      have : c = 0 := znz hce.symm (by omega)
      omega
  have hq : q k = nI c := by
    unfold zat2 at hce
    rw [if_pos hk] at hce
    exact hce
  have hcc : 48 + lo ≤ c ∧ c ≤ 48 + hi := by omega
  refine ⟨?_, c - 48, by omega, by omega, by omega, pk_sub (by omega)⟩
  unfold tk
  rw [if_pos ⟨Bool.not_eq_true _ |>.mp hf, hk, by rw [hq, nI_leI (by omega) (by omega), nI_leI (by omega) (by omega)]; exact hcc⟩, hq, pk_sub (by omega), pk_sub (by omega), pk_sub (by omega), show c - 48 - lo = c - (48 + lo) by omega]
theorem tkD_n {q : Nat → Int32} {m k lo hi : Nat} {f : Bool} (ho : pOK q m) (hl : lo ≤ 9) (hh : hi ≤ 9) (hs : f = true ∨ ¬ (nI lo ≤ zat2 q m k - nI 48 ∧ zat2 q m k - nI 48 ≤ nI hi)) : tk q m (nI (48 + lo)) (nI (48 + hi)) k f = (nI 0, k, true) := by
  unfold tk
  rw [if_neg]
  rintro ⟨h1, h2, h3, h4⟩
  rcases hs with h | h
  · rw [h1] at h; cases h
  · refine h ?_
    obtain ⟨c, hc1, hc2, hce⟩ := ho.2 k h2
    have hz : zat2 q m k = nI c := (if_pos h2).trans hce
    rw [hce, nI_leI (by omega) (by omega)] at h3
    rw [hce, nI_leI (by omega) (by omega)] at h4
    rw [hz]
    exact (zdig (by omega) hh).mpr (Or.inl ⟨h3, h4⟩)
set_option maxRecDepth 100000 in
set_option maxHeartbeats 4000000 in
theorem c_X2_readSign {h : zhp} {r : Nat} {q : Nat → Int32} {m : Nat} (hR : zRd h r q m) (R : Nat → Int32) (k : Nat) (f : Bool) (hk : k ≤ 60) (h1 : R 1 = nI k) (h8 : R 8 = zb (f = true)) (sg : Int32) (h0 : ¬ sg = nI 0) : MM iX2_readSign [.ref r, .int sg] (zr h r R) (zfn (zr h r (rS R (tk q m sg sg k f).2.1 (tk q m sg sg k f).2.2))) := by
  refine MM_of (by decide +kernel) (Nat.le_of_ble_eq_true rfl) ?_
  refine tt_aload_n dX2_readSign_0 rfl ?_
  refine tt_rI dX2_readSign_1 fX2_19 rfl hR ?_
  refine tt_eq (h8) ?_
  refine tt_if_neB (tgt := 35) dX2_readSign_4 (by decide) (fun c_4 => ?_) (fun c_4 => ?_)
  · refine tt_aload_n dX2_readSign_35 rfl ?_
    refine tt_iconst (nI 1) dX2_readSign_36 rfl ?_
    refine tt_rpZ dX2_readSign_37 fX2_19 rfl (Or.inr rfl) rfl hR ?_
    exact tt_return dX2_readSign_40 rfl (Nat.zero_le _) (Nat.zero_le _) (by first | (rw [tkS_y c_4 c_19 h0, ← rS_ok h8 c_4]; exact ⟨rfl, rfl⟩) | (rw [tkS_n (Or.inl c_4), ← rS_bad h1]; exact ⟨rfl, rfl⟩) | (rw [tkS_n (Or.inr c_19), ← rS_bad h1]; exact ⟨rfl, rfl⟩))
  · refine tt_aload_n dX2_readSign_7 rfl ?_
    refine tt_getR dX2_readSign_8 fX2_9 rfl hR.2.1 hR.2.2.1 ?_
    refine tt_aload_n dX2_readSign_11 rfl ?_
    refine tt_rI dX2_readSign_12 fX2_23 rfl hR ?_
    refine tt_eq (h1) ?_
    refine tt_fVi (c_X1_signAt (zr_Pd hR) _ (by omega)) dX2_readSign_15 vX2_39 rfl rfl (zr_Pd hR).1.1 (by decide) rfl (by decide) ⟨rfl, rfl⟩ (Nat.zero_le _) (Nat.zero_le _) (Nat.le_of_ble_eq_true rfl) ?_
    refine tt_iload_n dX2_readSign_18 rfl ?_
    refine tt_icmp_ne (tgt := 35) dX2_readSign_19 (by decide) (fun c_19 => ?_) (fun c_19 => ?_)
    · refine tt_aload_n dX2_readSign_35 rfl ?_
      refine tt_iconst (nI 1) dX2_readSign_36 rfl ?_
      refine tt_rpZ dX2_readSign_37 fX2_19 rfl (Or.inr rfl) rfl hR ?_
      exact tt_return dX2_readSign_40 rfl (Nat.zero_le _) (Nat.zero_le _) (by first | (rw [tkS_y c_4 c_19 h0, ← rS_ok h8 c_4]; exact ⟨rfl, rfl⟩) | (rw [tkS_n (Or.inl c_4), ← rS_bad h1]; exact ⟨rfl, rfl⟩) | (rw [tkS_n (Or.inr c_19), ← rS_bad h1]; exact ⟨rfl, rfl⟩))
    · refine tt_aload_n dX2_readSign_22 rfl ?_
      refine tt_dup dX2_readSign_23 rfl ?_
      refine tt_rI dX2_readSign_24 fX2_23 rfl hR ?_
      refine tt_eq (h1) ?_
      refine tt_iconst (nI 1) dX2_readSign_27 rfl ?_
      refine tt_iaddN dX2_readSign_28 ?_
      refine tt_rp dX2_readSign_29 fX2_23 rfl rfl hR ?_
      refine tt_goto (tgt := 40) dX2_readSign_32 (by decide) ?_
      exact tt_return dX2_readSign_40 rfl (Nat.zero_le _) (Nat.zero_le _) (by first | (rw [tkS_y c_4 c_19 h0, ← rS_ok h8 c_4]; exact ⟨rfl, rfl⟩) | (rw [tkS_n (Or.inl c_4), ← rS_bad h1]; exact ⟨rfl, rfl⟩) | (rw [tkS_n (Or.inr c_19), ← rS_bad h1]; exact ⟨rfl, rfl⟩))
set_option maxRecDepth 100000 in
set_option maxHeartbeats 4000000 in
theorem c_X2_readDigit {h : zhp} {r : Nat} {q : Nat → Int32} {m : Nat} (hR : zRd h r q m) (R : Nat → Int32) (k : Nat) (f : Bool) (hk : k ≤ 60) (h1 : R 1 = nI k) (h8 : R 8 = zb (f = true)) (lo hi : Nat) (hl : lo ≤ 9) (hh : hi ≤ 9) : MM iX2_readDigit [.ref r, .int (nI lo), .int (nI hi)] (zr h r R) (zfi (if (tk q m (nI (48 + lo)) (nI (48 + hi)) k f).2.2 = true then nI 0 else (tk q m (nI (48 + lo)) (nI (48 + hi)) k f).1 + nI lo) (zr h r (rS R (tk q m (nI (48 + lo)) (nI (48 + hi)) k f).2.1 (tk q m (nI (48 + lo)) (nI (48 + hi)) k f).2.2))) := by
  have ho := hR.2.2.2.2.2.1
  refine MM_of (by decide +kernel) (Nat.le_of_ble_eq_true rfl) ?_
  refine tt_aload_n dX2_readDigit_0 rfl ?_
  refine tt_getR dX2_readDigit_1 fX2_9 rfl hR.2.1 hR.2.2.1 ?_
  refine tt_aload_n dX2_readDigit_4 rfl ?_
  refine tt_rI dX2_readDigit_5 fX2_23 rfl hR ?_
  refine tt_eq (h1) ?_
  refine tt_fVi (c_X1_signAt (zr_Pd hR) _ (by omega)) dX2_readDigit_8 vX2_39 rfl rfl (zr_Pd hR).1.1 (by decide) rfl (by decide) ⟨rfl, rfl⟩ (Nat.zero_le _) (Nat.zero_le _) (Nat.le_of_ble_eq_true rfl) ?_
  refine tt_bipush (nI 48) dX2_readDigit_11 rfl ?_
  refine tt_isub dX2_readDigit_13 ?_
  refine tt_istore_n dX2_readDigit_14 rfl (Nat.le_of_ble_eq_true rfl) rfl ?_
  refine tt_aload_n dX2_readDigit_15 rfl ?_
  refine tt_rI dX2_readDigit_16 fX2_19 rfl hR ?_
  refine tt_eq (h8) ?_
  refine tt_if_neB (tgt := 31) dX2_readDigit_19 (by decide) (fun c_19 => ?_) (fun c_19 => ?_)
  · refine tt_aload_n dX2_readDigit_31 rfl ?_
    refine tt_iconst (nI 1) dX2_readDigit_32 rfl ?_
    refine tt_rpZ dX2_readDigit_33 fX2_19 rfl (Or.inr rfl) rfl hR ?_
    refine tt_iconst (nI 0) dX2_readDigit_36 rfl ?_
    exact tt_ireturn dX2_readDigit_37 rfl rfl (Nat.zero_le _) (Nat.zero_le _) (by
      first
      | (obtain ⟨e1, d, hd, hd1, hd2, hde⟩ := tkD_y ho hl hh c_19 c_28
         rw [e1]
         dsimp only
         rw [← rS_ok h8 c_19, if_neg (show ¬ (false = true) by decide), hde, pk_sub (by omega), nI_add, show d - lo + lo = d by omega]
         exact ⟨rfl, rfl⟩)
      | (rw [tkD_n ho hl hh (Or.inl c_19), ← rS_bad h1]; exact ⟨rfl, rfl⟩)
      | (rw [tkD_n ho hl hh (Or.inr c_28), ← rS_bad h1]; exact ⟨rfl, rfl⟩))
  · refine tt_iload_n dX2_readDigit_22 rfl ?_
    refine tt_iload_n dX2_readDigit_23 rfl ?_
    refine tt_iload_n dX2_readDigit_24 rfl ?_
    refine tt_fSNi (c_X5_isWithin _ _ _ _) dX2_readDigit_25 sX2_68 rfl rfl (by decide) ⟨rfl, rfl⟩ (Nat.zero_le _) (Nat.zero_le _) (Nat.le_of_ble_eq_true rfl) ?_
    refine tt_if_neB (tgt := 38) dX2_readDigit_28 (by decide) (fun c_28 => ?_) (fun c_28 => ?_)
    · refine tt_aload_n dX2_readDigit_38 rfl ?_
      refine tt_dup dX2_readDigit_39 rfl ?_
      refine tt_rI dX2_readDigit_40 fX2_23 rfl hR ?_
      refine tt_eq (h1) ?_
      refine tt_iconst (nI 1) dX2_readDigit_43 rfl ?_
      refine tt_iaddN dX2_readDigit_44 ?_
      refine tt_rp dX2_readDigit_45 fX2_23 rfl rfl hR ?_
      refine tt_iload_n dX2_readDigit_48 rfl ?_
      exact tt_ireturn dX2_readDigit_49 rfl rfl (Nat.zero_le _) (Nat.zero_le _) (by
        first
        | (obtain ⟨e1, d, hd, hd1, hd2, hde⟩ := tkD_y ho hl hh c_19 c_28
           rw [e1]
           dsimp only
           rw [← rS_ok h8 c_19, if_neg (show ¬ (false = true) by decide), hde, pk_sub (by omega), nI_add, show d - lo + lo = d by omega]
           exact ⟨rfl, rfl⟩)
        | (rw [tkD_n ho hl hh (Or.inl c_19), ← rS_bad h1]; exact ⟨rfl, rfl⟩)
        | (rw [tkD_n ho hl hh (Or.inr c_28), ← rS_bad h1]; exact ⟨rfl, rfl⟩))
    · refine tt_aload_n dX2_readDigit_31 rfl ?_
      refine tt_iconst (nI 1) dX2_readDigit_32 rfl ?_
      refine tt_rpZ dX2_readDigit_33 fX2_19 rfl (Or.inr rfl) rfl hR ?_
      refine tt_iconst (nI 0) dX2_readDigit_36 rfl ?_
      exact tt_ireturn dX2_readDigit_37 rfl rfl (Nat.zero_le _) (Nat.zero_le _) (by
        first
        | (obtain ⟨e1, d, hd, hd1, hd2, hde⟩ := tkD_y ho hl hh c_19 c_28
           rw [e1]
           dsimp only
           rw [← rS_ok h8 c_19, if_neg (show ¬ (false = true) by decide), hde, pk_sub (by omega), nI_add, show d - lo + lo = d by omega]
           exact ⟨rfl, rfl⟩)
        | (rw [tkD_n ho hl hh (Or.inl c_19), ← rS_bad h1]; exact ⟨rfl, rfl⟩)
        | (rw [tkD_n ho hl hh (Or.inr c_28), ← rS_bad h1]; exact ⟨rfl, rfl⟩))
