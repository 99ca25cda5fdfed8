/-! the text: what an order is, and how the reference reads it -/
def tk (p : Nat → Int32) (n : Nat) (lo hi : Int32) (k : Nat) (f : Bool) : Int32 × Nat × Bool := if f = false ∧ k < n ∧ (lo ≤ p k ∧ p k ≤ hi) then (p k - lo, k + 1, false) else (nI 0, k, true)
def nu (p : Nat → Int32) (n l m : Nat) (k : Nat) (f : Bool) : Int32 × Nat × Bool :=
  let a := tk p n (nI (48 + l)) (nI 57) k f
  if 0 < a.1 + nI l ∧ (a.2.2 = false ∧ a.2.1 < n ∧ (nI 48 ≤ p a.2.1 ∧ p a.2.1 ≤ nI 57)) ∧ nI 10 * (a.1 + nI l) + p a.2.1 - nI 48 ≤ nI m then (nI 10 * (a.1 + nI l) + p a.2.1 - nI 48, a.2.1 + 1, false) else (a.1 + nI l, a.2.1, a.2.2)
/-- the characters of a text -/
def pOK (p : Nat → Int32) (n : Nat) : Prop := n ≤ 60 ∧ ∀ k, k < n → ∃ c, 33 ≤ c ∧ c ≤ 126 ∧ p k = nI c
theorem zb01 {P : Prop} [Decidable P] : zb P = 0 ∨ zb P = 1 := by
  unfold zb
  split
  · exact Or.inr rfl
  · exact Or.inl rfl
theorem zb_cg {P R : Prop} [Decidable P] [Decidable R] (h : P ↔ R) : zb P = zb R := by
  unfold zb
  by_cases q : P
  · rw [if_pos q, if_pos (h.mp q)]
  · rw [if_neg q, if_neg (fun z => q (h.mpr z))]
theorem tk_ok {p : Nat → Int32} {n : Nat} {lo hi : Int32} {k : Nat} {f : Bool} (h : (tk p n lo hi k f).2.2 = false) : f = false ∧ k < n ∧ (lo ≤ p k ∧ p k ≤ hi) ∧ tk p n lo hi k f = (p k - lo, k + 1, false) := by
  unfold tk at h ⊢
  by_cases q : f = false ∧ k < n ∧ (lo ≤ p k ∧ p k ≤ hi)
  · rw [if_pos q]
    exact ⟨q.1, q.2.1, q.2.2, rfl⟩
  · rw [if_neg q] at h
    cases h
theorem upd3 (F : Nat → Int32) (x y z : Int32) : upd (upd (upd F 8 x) 9 z) 8 y = upd (upd F 8 y) 9 z := by
  funext k
  unfold upd
  split
  · next h => subst h; simp
  · split
    · rfl
    · rfl
set_option maxRecDepth 100000 in
set_option maxHeartbeats 4000000 in
theorem c_X6_isNext {h : zhp} (hM : zMo h) (F s a t l p : Nat → Int32) (n : Nat) (hn : n ≤ 60) (h7 : F 7 = nI n) (k : Nat) (f : Bool) (hk : k ≤ 60) (h8 : F 8 = nI k) (h9 : F 9 = zb (f = true)) (lo hi : Int32) : MM iX6_isNext [.ref 181, .int lo, .int hi] (zm h F s a t l p) (zfi (zb (f = false ∧ k < n ∧ (lo ≤ p k ∧ p k ≤ hi))) (zm h F s a t l p)) := by
  refine MM_of (by decide +kernel) (Nat.le_of_ble_eq_true rfl) ?_
  refine tt_aload_n dX6_isNext_0 rfl ?_
  refine tt_mI dX6_isNext_1 fX6_146 rfl hM ?_
  refine tt_eq (h9) ?_
  refine tt_if_neB (tgt := 39) dX6_isNext_4 (by decide) (fun c_4 => ?_) (fun c_4 => ?_)
  · refine tt_iconst (nI 0) dX6_isNext_39 rfl ?_
    exact tt_ireturn dX6_isNext_40 rfl rfl (Nat.zero_le _) (Nat.zero_le _) ⟨congrArg (fun z => some (Value.int z)) (by first | exact (if_pos ⟨by simpa using c_4, by assumption, by assumption⟩).symm | exact (if_neg (fun q => absurd q.2.1 (by omega))).symm | exact (if_neg (fun q => by rw [c_4] at q; exact absurd q.1 (by decide))).symm | exact (if_neg (fun q => c_32 q.2.2)).symm), rfl⟩
  · refine tt_aload_n dX6_isNext_7 rfl ?_
    refine tt_mI dX6_isNext_8 fX6_150 rfl hM ?_
    refine tt_eq (h8) ?_
    refine tt_aload_n dX6_isNext_11 rfl ?_
    refine tt_mI dX6_isNext_12 fX6_134 rfl hM ?_
    refine tt_eq (h7) ?_
    refine tt_icmp_geN (tgt := 39) dX6_isNext_15 (by decide) (by omega) (by omega) (fun c_15 => ?_) (fun c_15 => ?_)
    · refine tt_iconst (nI 0) dX6_isNext_39 rfl ?_
      exact tt_ireturn dX6_isNext_40 rfl rfl (Nat.zero_le _) (Nat.zero_le _) ⟨congrArg (fun z => some (Value.int z)) (by first | exact (if_pos ⟨by simpa using c_4, by assumption, by assumption⟩).symm | exact (if_neg (fun q => absurd q.2.1 (by omega))).symm | exact (if_neg (fun q => by rw [c_4] at q; exact absurd q.1 (by decide))).symm | exact (if_neg (fun q => c_32 q.2.2)).symm), rfl⟩
    · refine tt_aload_n dX6_isNext_18 rfl ?_
      refine tt_mA (b := 186) dX6_isNext_19 fX6_22 rfl hM hM.2.2.2.2.2.1 ?_
      refine tt_aload_n dX6_isNext_22 rfl ?_
      refine tt_mI dX6_isNext_23 fX6_150 rfl hM ?_
      refine tt_eq (h8) ?_
      refine tt_ld5 dX6_isNext_26 hM (by omega) ?_
      refine tt_iload_n dX6_isNext_27 rfl ?_
      refine tt_iload_n dX6_isNext_28 rfl ?_
      refine tt_fSi (c_X6_in _ _ _ _) dX6_isNext_29 sX6_25 rfl rfl (by decide) ⟨rfl, rfl⟩ (Nat.zero_le _) (Nat.zero_le _) (Nat.le_of_ble_eq_true rfl) ?_
      refine tt_if_eqB (tgt := 39) dX6_isNext_32 (by decide) (fun c_32 => ?_) (fun c_32 => ?_)
      · refine tt_iconst (nI 0) dX6_isNext_39 rfl ?_
        exact tt_ireturn dX6_isNext_40 rfl rfl (Nat.zero_le _) (Nat.zero_le _) ⟨congrArg (fun z => some (Value.int z)) (by first | exact (if_pos ⟨by simpa using c_4, by assumption, by assumption⟩).symm | exact (if_neg (fun q => absurd q.2.1 (by omega))).symm | exact (if_neg (fun q => by rw [c_4] at q; exact absurd q.1 (by decide))).symm | exact (if_neg (fun q => c_32 q.2.2)).symm), rfl⟩
      · refine tt_iconst (nI 1) dX6_isNext_35 rfl ?_
        refine tt_goto (tgt := 40) dX6_isNext_36 (by decide) ?_
        exact tt_ireturn dX6_isNext_40 rfl rfl (Nat.zero_le _) (Nat.zero_le _) ⟨congrArg (fun z => some (Value.int z)) (by first | exact (if_pos ⟨by simpa using c_4, by assumption, by assumption⟩).symm | exact (if_neg (fun q => absurd q.2.1 (by omega))).symm | exact (if_neg (fun q => by rw [c_4] at q; exact absurd q.1 (by decide))).symm | exact (if_neg (fun q => c_32 q.2.2)).symm), rfl⟩
set_option maxRecDepth 100000 in
set_option maxHeartbeats 4000000 in
theorem c_X6_takesOne {h : zhp} (hM : zMo h) (F s a t l p : Nat → Int32) (n : Nat) (hn : n ≤ 60) (h7 : F 7 = nI n) (k : Nat) (f : Bool) (hk : k ≤ 60) (h8 : F 8 = nI k) (h9 : F 9 = zb (f = true)) (lo hi : Int32) : MM iX6_takesOne [.ref 181, .int lo, .int hi] (zm h F s a t l p) (zfi (tk p n lo hi k f).1 (zm h (upd (upd F 8 (nI (tk p n lo hi k f).2.1)) 9 (zb ((tk p n lo hi k f).2.2 = true))) s a t l p)) := by
  refine MM_of (by decide +kernel) (Nat.le_of_ble_eq_true rfl) ?_
  refine tt_aload_n dX6_takesOne_0 rfl ?_
  refine tt_iload_n dX6_takesOne_1 rfl ?_
  refine tt_iload_n dX6_takesOne_2 rfl ?_
  refine tt_fVi (c_X6_isNext hM _ _ _ _ _ _ n hn h7 k f hk h8 h9 _ _) dX6_takesOne_3 vX6_153 rfl rfl hM.1 (by decide) rfl (by decide) ⟨rfl, rfl⟩ (Nat.zero_le _) (Nat.zero_le _) (Nat.le_of_ble_eq_true rfl) ?_
  refine tt_istore_n dX6_takesOne_6 rfl (Nat.le_of_ble_eq_true rfl) rfl ?_
  refine tt_iload_n dX6_takesOne_7 rfl ?_
  refine tt_c1 (tgt := 26) (x := if f = false ∧ k < n ∧ (lo ≤ p k ∧ p k ≤ hi) then p k - lo else nI 0) ?_ (fun key_26 => ?_)
  · refine tt_istore dX6_takesOne_26 rfl (Nat.le_of_ble_eq_true rfl) rfl ?_
    refine tt_aload_n dX6_takesOne_28 rfl ?_
    refine tt_dup dX6_takesOne_29 rfl ?_
    refine tt_mI dX6_takesOne_30 fX6_150 rfl hM ?_
    refine tt_eq (h8) ?_
    refine tt_iload_n dX6_takesOne_33 rfl ?_
    refine tt_c1 (tgt := 42) (x := nI (if f = false ∧ k < n ∧ (lo ≤ p k ∧ p k ≤ hi) then 1 else 0)) ?_ (fun key_42 => ?_)
    · refine tt_iaddN dX6_takesOne_42 ?_
      refine tt_mp dX6_takesOne_43 fX6_150 rfl rfl hM ?_
      refine tt_aload_n dX6_takesOne_46 rfl ?_
      refine tt_aload_n dX6_takesOne_47 rfl ?_
      refine tt_mI dX6_takesOne_48 fX6_146 rfl hM ?_
      refine tt_eq (show _ = zb (f = true) by rw [pk_un (by omega)]; exact h9) ?_
      refine tt_c1 (tgt := 63) (x := zb (f = true ∨ ¬ (f = false ∧ k < n ∧ (lo ≤ p k ∧ p k ≤ hi)))) ?_ (fun key_63 => ?_)
      · refine tt_mpZ dX6_takesOne_63 fX6_146 rfl zb01 rfl hM ?_
        refine tt_iload dX6_takesOne_66 rfl ?_
        exact tt_ireturn dX6_takesOne_68 rfl rfl (Nat.zero_le _) (Nat.zero_le _) (by
  by_cases hp : f = false ∧ k < n ∧ (lo ≤ p k ∧ p k ≤ hi)
  · have e9 : tk p n lo hi k f = (p k - lo, k + 1, false) := if_pos hp
    rw [e9, if_pos hp, if_pos hp, zb_cg (P := f = true ∨ ¬ (f = false ∧ k < n ∧ (lo ≤ p k ∧ p k ≤ hi))) (R := false = true) ⟨fun q => by simp_all, fun q => by cases q⟩]
    exact ⟨rfl, rfl⟩
  · have e9 : tk p n lo hi k f = (nI 0, k, true) := if_neg hp
    rw [e9, if_neg hp, if_neg hp, zb_cg (P := f = true ∨ ¬ (f = false ∧ k < n ∧ (lo ≤ p k ∧ p k ≤ hi))) (R := true = true) ⟨fun q => rfl, fun q => Or.inr hp⟩]
    exact ⟨rfl, rfl⟩)
      · refine tt_if_neB (tgt := 58) dX6_takesOne_51 (by decide) (fun c_51 => ?_) (fun c_51 => ?_)
        · refine tt_iconst (nI 1) dX6_takesOne_58 rfl ?_
          refine tt_goto (tgt := 63) dX6_takesOne_59 (by decide) ?_
          exact key_63 _ (by first | exact (if_pos (Or.inl (by assumption))).symm | exact (if_pos (Or.inr (by assumption))).symm | exact (if_neg (fun q => q.elim (by assumption) (fun r => r (by assumption)))).symm)
        · refine tt_iload_n dX6_takesOne_54 rfl ?_
          refine tt_if_neB (tgt := 62) dX6_takesOne_55 (by decide) (fun c_55 => ?_) (fun c_55 => ?_)
          · refine tt_iconst (nI 0) dX6_takesOne_62 rfl ?_
            exact key_63 _ (by first | exact (if_pos (Or.inl (by assumption))).symm | exact (if_pos (Or.inr (by assumption))).symm | exact (if_neg (fun q => q.elim (by assumption) (fun r => r (by assumption)))).symm)
          · refine tt_iconst (nI 1) dX6_takesOne_58 rfl ?_
            refine tt_goto (tgt := 63) dX6_takesOne_59 (by decide) ?_
            exact key_63 _ (by first | exact (if_pos (Or.inl (by assumption))).symm | exact (if_pos (Or.inr (by assumption))).symm | exact (if_neg (fun q => q.elim (by assumption) (fun r => r (by assumption)))).symm)
    · refine tt_if_eqB (tgt := 41) dX6_takesOne_34 (by decide) (fun c_34 => ?_) (fun c_34 => ?_)
      · refine tt_iconst (nI 0) dX6_takesOne_41 rfl ?_
        exact key_42 _ (by first | (rw [if_pos (by assumption)]; done) | (rw [if_neg (by assumption)]; done))
      · refine tt_iconst (nI 1) dX6_takesOne_37 rfl ?_
        refine tt_goto (tgt := 42) dX6_takesOne_38 (by decide) ?_
        exact key_42 _ (by first | (rw [if_pos (by assumption)]; done) | (rw [if_neg (by assumption)]; done))
  · refine tt_if_eqB (tgt := 25) dX6_takesOne_8 (by decide) (fun c_8 => ?_) (fun c_8 => ?_)
    · refine tt_iconst (nI 0) dX6_takesOne_25 rfl ?_
      exact key_26 _ (by first | exact (if_pos (by assumption)).symm | exact (if_neg (by assumption)).symm | simp_all)
    · have hkn := c_8.2.1
      refine tt_aload_n dX6_takesOne_11 rfl ?_
      refine tt_mA (b := 186) dX6_takesOne_12 fX6_22 rfl hM hM.2.2.2.2.2.1 ?_
      refine tt_aload_n dX6_takesOne_15 rfl ?_
      refine tt_mI dX6_takesOne_16 fX6_150 rfl hM ?_
      refine tt_eq (h8) ?_
      refine tt_ld5 dX6_takesOne_19 hM (by omega) ?_
      refine tt_iload_n dX6_takesOne_20 rfl ?_
      refine tt_isub dX6_takesOne_21 ?_
      refine tt_goto (tgt := 26) dX6_takesOne_22 (by decide) ?_
      exact key_26 _ (by first | exact (if_pos (by assumption)).symm | exact (if_neg (by assumption)).symm | simp_all)
