/-! the reference: what changes its row s, and loops over it -/
def sCh (s : Nat → Int32) (n c : Nat) (x : Int32) : Nat → Int32 := upd (upd s (34 + 10 * n + 9) (s (34 + 10 * n + 9) + x)) (15 + 3 * c + 0) (upd s (34 + 10 * n + 9) (s (34 + 10 * n + 9) + x) (15 + 3 * c + 0) + x)
def sFi (s : Nat → Int32) (n c : Nat) (x : Int32) : Nat → Int32 := upd (sCh s n c x) (15 + 3 * c + 2) (sCh s n c x (15 + 3 * c + 2) + x)
theorem sCh_ne {s : Nat → Int32} {n c : Nat} {x : Int32} {k : Nat} (h1 : k ≠ 34 + 10 * n + 9) (h2 : k ≠ 15 + 3 * c) : sCh s n c x k = s k := by
  unfold sCh
  rw [pk_un (by omega), pk_un h1]
theorem sFi_ne {s : Nat → Int32} {n c : Nat} {x : Int32} {k : Nat} (h1 : k ≠ 34 + 10 * n + 9) (h2 : k ≠ 15 + 3 * c) (h3 : k ≠ 15 + 3 * c + 2) : sFi s n c x k = s k := by
  unfold sFi
  rw [pk_un h3, sCh_ne h1 h2]
def sHi (s : Nat → Int32) (n c : Nat) : Nat → Int32 := sCh s n c (s 0 * (nI 1 + s (34 + 10 * n + 1)))
def sSt (s : Nat → Int32) (n c : Nat) : Nat → Int32 :=
  let s1 := sFi s n c (if s (34 + 10 * n + 6) ≠ -6 ∧ s 8 ≤ s (34 + 10 * n + 6) then nI 0 else s 2)
  let s2 := sFi s1 n c (if s1 (34 + 10 * n + 5) ≤ 0 then s1 3 else nI 0)
  upd s2 (34 + 10 * n + 5) (s2 (34 + 10 * n + 5) - (if s2 (34 + 10 * n + 5) ≤ 0 then nI 0 else nI 1))
def sLd (s : Nat → Int32) (n : Nat) : Nat → Int32 :=
  let ld := s (34 + 10 * n + 3) + s (34 + 10 * n + 4)
  let b := if ld ≤ nI 20 + nI 20 * s (34 + 10 * n + 1) then nI 0 else ld - (nI 20 + nI 20 * s (34 + 10 * n + 1))
  let s1 := upd s (34 + 10 * n + 3) (ld - b)
  let s2 := upd s1 (34 + 10 * n + 7) (s1 (34 + 10 * n + 7) + b)
  upd s2 134 (s2 134 + b)
def sDo (s : Nat → Int32) (n c : Nat) : Nat → Int32 := sLd (if sHi s n c (34 + 10 * n + 2) < nI 5 then sSt (sHi s n c) n c else sHi s n c) n
set_option maxRecDepth 100000 in
set_option maxHeartbeats 4000000 in
theorem c_X6_charges {h : zhp} (hM : zMo h) (F s a t l p : Nat → Int32) (n c : Nat) (x : Int32) (hn : n < 10) (hc : c < 6) (hcu : s (34 + 10 * n + 0) = nI c) : MM iX6_charges [.ref 181, .int (nI n), .int x] (zm h F s a t l p) (zfn (zm h F (sCh s n c x) a t l p)) := by
  refine MM_of (by decide +kernel) (Nat.le_of_ble_eq_true rfl) ?_
  refine tt_aload_n dX6_charges_0 rfl ?_
  refine tt_mA (b := 182) dX6_charges_1 fX6_7 rfl hM hM.2.1 ?_
  refine tt_iload_n dX6_charges_4 rfl ?_
  refine tt_bipush (nI 9) dX6_charges_5 rfl ?_
  refine tt_fSi (c_X6_of _ _ _) dX6_charges_7 sX6_29 rfl rfl (by decide) ⟨rfl, rfl⟩ (Nat.zero_le _) (Nat.zero_le _) (Nat.le_of_ble_eq_true rfl) ?_
  refine tt_dup2 dX6_charges_10 rfl rfl ?_
  refine tt_ld1 dX6_charges_11 hM (by omega) ?_
  refine tt_iload_n dX6_charges_12 rfl ?_
  refine tt_iadd dX6_charges_13 ?_
  refine tt_st1 dX6_charges_14 hM (by omega) ?_
  refine tt_aload_n dX6_charges_15 rfl ?_
  refine tt_mA (b := 182) dX6_charges_16 fX6_7 rfl hM hM.2.1 ?_
  refine tt_aload_n dX6_charges_19 rfl ?_
  refine tt_mA (b := 182) dX6_charges_20 fX6_7 rfl hM hM.2.1 ?_
  refine tt_iload_n dX6_charges_23 rfl ?_
  refine tt_iconst (nI 0) dX6_charges_24 rfl ?_
  refine tt_fSi (c_X6_of _ _ _) dX6_charges_25 sX6_29 rfl rfl (by decide) ⟨rfl, rfl⟩ (Nat.zero_le _) (Nat.zero_le _) (Nat.le_of_ble_eq_true rfl) ?_
  refine tt_ld1 dX6_charges_28 hM (by omega) ?_
  refine tt_eq (show _ = nI c by rw [pk_un (by omega)]; exact hcu) ?_
  refine tt_iconst (nI 0) dX6_charges_29 rfl ?_
  refine tt_fSi (c_X6_ofCustomer _ _ _) dX6_charges_30 sX6_40 rfl rfl (by decide) ⟨rfl, rfl⟩ (Nat.zero_le _) (Nat.zero_le _) (Nat.le_of_ble_eq_true rfl) ?_
  refine tt_dup2 dX6_charges_33 rfl rfl ?_
  refine tt_ld1 dX6_charges_34 hM (by omega) ?_
  refine tt_iload_n dX6_charges_35 rfl ?_
  refine tt_iadd dX6_charges_36 ?_
  refine tt_st1 dX6_charges_37 hM (by omega) ?_
  exact tt_return dX6_charges_38 rfl (Nat.zero_le _) (Nat.zero_le _) ⟨rfl, rfl⟩
set_option maxRecDepth 100000 in
set_option maxHeartbeats 4000000 in
theorem c_X6_fines {h : zhp} (hM : zMo h) (F s a t l p : Nat → Int32) (n c : Nat) (x : Int32) (hn : n < 10) (hc : c < 6) (hcu : s (34 + 10 * n + 0) = nI c) : MM iX6_fines [.ref 181, .int (nI n), .int x] (zm h F s a t l p) (zfn (zm h F (sFi s n c x) a t l p)) := by
  refine MM_of (by decide +kernel) (Nat.le_of_ble_eq_true rfl) ?_
  refine tt_aload_n dX6_fines_0 rfl ?_
  refine tt_iload_n dX6_fines_1 rfl ?_
  refine tt_iload_n dX6_fines_2 rfl ?_
  refine tt_fVv (c_X6_charges hM _ _ _ _ _ _ _ c _ hn hc (hcu)) dX6_fines_3 vX6_43 rfl rfl hM.1 (by decide) rfl (by decide) ⟨rfl, rfl⟩ (Nat.zero_le _) (Nat.zero_le _) (Nat.le_of_ble_eq_true rfl) ?_
  refine tt_aload_n dX6_fines_6 rfl ?_
  refine tt_mA (b := 182) dX6_fines_7 fX6_7 rfl hM hM.2.1 ?_
  refine tt_aload_n dX6_fines_10 rfl ?_
  refine tt_mA (b := 182) dX6_fines_11 fX6_7 rfl hM hM.2.1 ?_
  refine tt_iload_n dX6_fines_14 rfl ?_
  refine tt_iconst (nI 0) dX6_fines_15 rfl ?_
  refine tt_fSi (c_X6_of _ _ _) dX6_fines_16 sX6_29 rfl rfl (by decide) ⟨rfl, rfl⟩ (Nat.zero_le _) (Nat.zero_le _) (Nat.le_of_ble_eq_true rfl) ?_
  refine tt_ld1 dX6_fines_19 hM (by omega) ?_
  refine tt_eq (show _ = nI c by rw [sCh_ne (by omega) (by omega)]; exact hcu) ?_
  refine tt_iconst (nI 2) dX6_fines_20 rfl ?_
  refine tt_fSi (c_X6_ofCustomer _ _ _) dX6_fines_21 sX6_40 rfl rfl (by decide) ⟨rfl, rfl⟩ (Nat.zero_le _) (Nat.zero_le _) (Nat.le_of_ble_eq_true rfl) ?_
  refine tt_dup2 dX6_fines_24 rfl rfl ?_
  refine tt_ld1 dX6_fines_25 hM (by omega) ?_
  refine tt_iload_n dX6_fines_26 rfl ?_
  refine tt_iadd dX6_fines_27 ?_
  refine tt_st1 dX6_fines_28 hM (by omega) ?_
  exact tt_return dX6_fines_29 rfl (Nat.zero_le _) (Nat.zero_le _) ⟨rfl, rfl⟩
set_option maxRecDepth 100000 in
set_option maxHeartbeats 4000000 in
theorem g_X6_dayOf_114 {h : zhp} (hM : zMo h) (F s a t l p : Nat → Int32) (n c : Nat) (hn : n < 10) (hc : c < 6) {Q : Option Value → zhp → Prop} (q : Q none (zm h F (sLd s n) a t l p)) : TT iX6_dayOf 114 [some (.ref 181), some (.int (nI n)), none, none] [] (zm h F s a t l p) 0 0 Q := by
  refine tt_aload_n dX6_dayOf_114 rfl ?_
  refine tt_mA (b := 182) dX6_dayOf_115 fX6_7 rfl hM hM.2.1 ?_
  refine tt_iload_n dX6_dayOf_118 rfl ?_
  refine tt_iconst (nI 3) dX6_dayOf_119 rfl ?_
  refine tt_fSi (c_X6_of _ _ _) dX6_dayOf_120 sX6_29 rfl rfl (by decide) ⟨rfl, rfl⟩ (Nat.zero_le _) (Nat.zero_le _) (Nat.le_of_ble_eq_true rfl) ?_
  refine tt_ld1 dX6_dayOf_123 hM (by omega) ?_
  refine tt_aload_n dX6_dayOf_124 rfl ?_
  refine tt_mA (b := 182) dX6_dayOf_125 fX6_7 rfl hM hM.2.1 ?_
  refine tt_iload_n dX6_dayOf_128 rfl ?_
  refine tt_iconst (nI 4) dX6_dayOf_129 rfl ?_
  refine tt_fSi (c_X6_of _ _ _) dX6_dayOf_130 sX6_29 rfl rfl (by decide) ⟨rfl, rfl⟩ (Nat.zero_le _) (Nat.zero_le _) (Nat.le_of_ble_eq_true rfl) ?_
  refine tt_ld1 dX6_dayOf_133 hM (by omega) ?_
  refine tt_iadd dX6_dayOf_134 ?_
  refine tt_istore_n dX6_dayOf_135 rfl (Nat.le_of_ble_eq_true rfl) rfl ?_
  refine tt_iload_n dX6_dayOf_136 rfl ?_
  refine tt_aload_n dX6_dayOf_137 rfl ?_
  refine tt_iload_n dX6_dayOf_138 rfl ?_
  refine tt_fVi (c_X6_holds hM _ _ _ _ _ _ _ (by omega)) dX6_dayOf_139 vX6_57 rfl rfl hM.1 (by decide) rfl (by decide) ⟨rfl, rfl⟩ (Nat.zero_le _) (Nat.zero_le _) (Nat.le_of_ble_eq_true rfl) ?_
  refine tt_c2 (tgt := 156) (x := if s (34 + 10 * n + 3) + s (34 + 10 * n + 4) ≤ nI 20 + nI 20 * s (34 + 10 * n + 1) then nI 0 else s (34 + 10 * n + 3) + s (34 + 10 * n + 4) - (nI 20 + nI 20 * s (34 + 10 * n + 1))) ?_ (fun key_156 => ?_)
  · refine tt_istore_n dX6_dayOf_156 rfl (Nat.le_of_ble_eq_true rfl) rfl ?_
    refine tt_aload_n dX6_dayOf_157 rfl ?_
    refine tt_mA (b := 182) dX6_dayOf_158 fX6_7 rfl hM hM.2.1 ?_
    refine tt_iload_n dX6_dayOf_161 rfl ?_
    refine tt_iconst (nI 3) dX6_dayOf_162 rfl ?_
    refine tt_fSi (c_X6_of _ _ _) dX6_dayOf_163 sX6_29 rfl rfl (by decide) ⟨rfl, rfl⟩ (Nat.zero_le _) (Nat.zero_le _) (Nat.le_of_ble_eq_true rfl) ?_
    refine tt_iload_n dX6_dayOf_166 rfl ?_
    refine tt_iload_n dX6_dayOf_167 rfl ?_
    refine tt_isub dX6_dayOf_168 ?_
    refine tt_st1 dX6_dayOf_169 hM (by omega) ?_
    refine tt_aload_n dX6_dayOf_170 rfl ?_
    refine tt_mA (b := 182) dX6_dayOf_171 fX6_7 rfl hM hM.2.1 ?_
    refine tt_iload_n dX6_dayOf_174 rfl ?_
    refine tt_bipush (nI 7) dX6_dayOf_175 rfl ?_
    refine tt_fSi (c_X6_of _ _ _) dX6_dayOf_177 sX6_29 rfl rfl (by decide) ⟨rfl, rfl⟩ (Nat.zero_le _) (Nat.zero_le _) (Nat.le_of_ble_eq_true rfl) ?_
    refine tt_dup2 dX6_dayOf_180 rfl rfl ?_
    refine tt_ld1 dX6_dayOf_181 hM (by omega) ?_
    refine tt_iload_n dX6_dayOf_182 rfl ?_
    refine tt_iadd dX6_dayOf_183 ?_
    refine tt_st1 dX6_dayOf_184 hM (by omega) ?_
    refine tt_aload_n dX6_dayOf_185 rfl ?_
    refine tt_mA (b := 182) dX6_dayOf_186 fX6_7 rfl hM hM.2.1 ?_
    refine tt_sipush (nI 134) dX6_dayOf_189 rfl ?_
    refine tt_dup2 dX6_dayOf_192 rfl rfl ?_
    refine tt_ld1 dX6_dayOf_193 hM (by omega) ?_
    refine tt_iload_n dX6_dayOf_194 rfl ?_
    refine tt_iadd dX6_dayOf_195 ?_
    refine tt_st1 dX6_dayOf_196 hM (by omega) ?_
    exact tt_return dX6_dayOf_197 rfl (Nat.zero_le _) (Nat.zero_le _) q
  · refine tt_icmp_le (tgt := 155) dX6_dayOf_142 (by decide) (fun c_142 => ?_) (fun c_142 => ?_)
    · refine tt_iconst (nI 0) dX6_dayOf_155 rfl ?_
      exact key_156 _ (by first | exact (if_pos (by assumption)).symm | exact (if_neg (by assumption)).symm | simp_all)
    · refine tt_iload_n dX6_dayOf_145 rfl ?_
      refine tt_aload_n dX6_dayOf_146 rfl ?_
      refine tt_iload_n dX6_dayOf_147 rfl ?_
      refine tt_fVi (c_X6_holds hM _ _ _ _ _ _ _ (by omega)) dX6_dayOf_148 vX6_57 rfl rfl hM.1 (by decide) rfl (by decide) ⟨rfl, rfl⟩ (Nat.zero_le _) (Nat.zero_le _) (Nat.le_of_ble_eq_true rfl) ?_
      refine tt_isub dX6_dayOf_151 ?_
      refine tt_goto (tgt := 156) dX6_dayOf_152 (by decide) ?_
      exact key_156 _ (by first | exact (if_pos (by assumption)).symm | exact (if_neg (by assumption)).symm | simp_all)
set_option maxRecDepth 100000 in
set_option maxHeartbeats 4000000 in
theorem g_X6_dayOf_32 {h : zhp} (hM : zMo h) (F s a t l p : Nat → Int32) (n c : Nat) (hn : n < 10) (hc : c < 6) (hcu : s (34 + 10 * n + 0) = nI c) {Q : Option Value → zhp → Prop} (q : Q none (zm h F (sLd (sSt s n c) n) a t l p)) : TT iX6_dayOf 32 [some (.ref 181), some (.int (nI n)), none, none] [] (zm h F s a t l p) 0 0 Q := by
  refine tt_aload_n dX6_dayOf_32 rfl ?_
  refine tt_iload_n dX6_dayOf_33 rfl ?_
  refine tt_aload_n dX6_dayOf_34 rfl ?_
  refine tt_iload_n dX6_dayOf_35 rfl ?_
  refine tt_fVi (c_X6_isPermitted hM _ _ _ _ _ _ _ (by omega)) dX6_dayOf_36 vX6_51 rfl rfl hM.1 (by decide) rfl (by decide) ⟨rfl, rfl⟩ (Nat.zero_le _) (Nat.zero_le _) (Nat.le_of_ble_eq_true rfl) ?_
  refine tt_c1 (tgt := 52) (x := if s (34 + 10 * n + 6) ≠ -6 ∧ s 8 ≤ s (34 + 10 * n + 6) then nI 0 else s 2) ?_ (fun key_52 => ?_)
  · refine tt_fVv (c_X6_fines hM _ _ _ _ _ _ _ c _ hn hc (hcu)) dX6_dayOf_52 vX6_54 rfl rfl hM.1 (by decide) rfl (by decide) ⟨rfl, rfl⟩ (Nat.zero_le _) (Nat.zero_le _) (Nat.le_of_ble_eq_true rfl) ?_
    refine tt_aload_n dX6_dayOf_55 rfl ?_
    refine tt_iload_n dX6_dayOf_56 rfl ?_
    refine tt_aload_n dX6_dayOf_57 rfl ?_
    refine tt_mA (b := 182) dX6_dayOf_58 fX6_7 rfl hM hM.2.1 ?_
    refine tt_iload_n dX6_dayOf_61 rfl ?_
    refine tt_iconst (nI 5) dX6_dayOf_62 rfl ?_
    refine tt_fSi (c_X6_of _ _ _) dX6_dayOf_63 sX6_29 rfl rfl (by decide) ⟨rfl, rfl⟩ (Nat.zero_le _) (Nat.zero_le _) (Nat.le_of_ble_eq_true rfl) ?_
    refine tt_ld1 dX6_dayOf_66 hM (by omega) ?_
    refine tt_c1 (tgt := 80) (x := if (sFi s n c (if s (34 + 10 * n + 6) ≠ -6 ∧ s 8 ≤ s (34 + 10 * n + 6) then nI 0 else s 2)) (34 + 10 * n + 5) ≤ 0 then (sFi s n c (if s (34 + 10 * n + 6) ≠ -6 ∧ s 8 ≤ s (34 + 10 * n + 6) then nI 0 else s 2)) 3 else nI 0) ?_ (fun key_80 => ?_)
    · refine tt_fVv (c_X6_fines hM _ _ _ _ _ _ _ c _ hn hc (by rw [sFi_ne (by omega) (by omega) (by omega)]; exact hcu)) dX6_dayOf_80 vX6_54 rfl rfl hM.1 (by decide) rfl (by decide) ⟨rfl, rfl⟩ (Nat.zero_le _) (Nat.zero_le _) (Nat.le_of_ble_eq_true rfl) ?_
      refine tt_aload_n dX6_dayOf_83 rfl ?_
      refine tt_mA (b := 182) dX6_dayOf_84 fX6_7 rfl hM hM.2.1 ?_
      refine tt_iload_n dX6_dayOf_87 rfl ?_
      refine tt_iconst (nI 5) dX6_dayOf_88 rfl ?_
      refine tt_fSi (c_X6_of _ _ _) dX6_dayOf_89 sX6_29 rfl rfl (by decide) ⟨rfl, rfl⟩ (Nat.zero_le _) (Nat.zero_le _) (Nat.le_of_ble_eq_true rfl) ?_
      refine tt_dup2 dX6_dayOf_92 rfl rfl ?_
      refine tt_ld1 dX6_dayOf_93 hM (by omega) ?_
      refine tt_aload_n dX6_dayOf_94 rfl ?_
      refine tt_mA (b := 182) dX6_dayOf_95 fX6_7 rfl hM hM.2.1 ?_
      refine tt_iload_n dX6_dayOf_98 rfl ?_
      refine tt_iconst (nI 5) dX6_dayOf_99 rfl ?_
      refine tt_fSi (c_X6_of _ _ _) dX6_dayOf_100 sX6_29 rfl rfl (by decide) ⟨rfl, rfl⟩ (Nat.zero_le _) (Nat.zero_le _) (Nat.le_of_ble_eq_true rfl) ?_
      refine tt_ld1 dX6_dayOf_103 hM (by omega) ?_
      refine tt_c1 (tgt := 112) (x := if (sFi (sFi s n c (if s (34 + 10 * n + 6) ≠ -6 ∧ s 8 ≤ s (34 + 10 * n + 6) then nI 0 else s 2)) n c (if (sFi s n c (if s (34 + 10 * n + 6) ≠ -6 ∧ s 8 ≤ s (34 + 10 * n + 6) then nI 0 else s 2)) (34 + 10 * n + 5) ≤ 0 then (sFi s n c (if s (34 + 10 * n + 6) ≠ -6 ∧ s 8 ≤ s (34 + 10 * n + 6) then nI 0 else s 2)) 3 else nI 0)) (34 + 10 * n + 5) ≤ 0 then nI 0 else nI 1) ?_ (fun key_112 => ?_)
      · refine tt_isub dX6_dayOf_112 ?_
        refine tt_st1 dX6_dayOf_113 hM (by omega) ?_
        exact g_X6_dayOf_114 hM _ _ _ _ _ _ n c hn hc q
      · refine tt_if_le (tgt := 111) dX6_dayOf_104 (by decide) (fun c_104 => ?_) (fun c_104 => ?_)
        · refine tt_iconst (nI 0) dX6_dayOf_111 rfl ?_
          exact key_112 _ (by first | exact (if_pos (by assumption)).symm | exact (if_neg (by assumption)).symm | simp_all)
        · refine tt_iconst (nI 1) dX6_dayOf_107 rfl ?_
          refine tt_goto (tgt := 112) dX6_dayOf_108 (by decide) ?_
          exact key_112 _ (by first | exact (if_pos (by assumption)).symm | exact (if_neg (by assumption)).symm | simp_all)
    · refine tt_if_le (tgt := 74) dX6_dayOf_67 (by decide) (fun c_67 => ?_) (fun c_67 => ?_)
      · refine tt_aload_n dX6_dayOf_74 rfl ?_
        refine tt_mA (b := 182) dX6_dayOf_75 fX6_7 rfl hM hM.2.1 ?_
        refine tt_iconst (nI 3) dX6_dayOf_78 rfl ?_
        refine tt_ld1 dX6_dayOf_79 hM (by omega) ?_
        exact key_80 _ (by first | exact (if_pos (by assumption)).symm | exact (if_neg (by assumption)).symm | simp_all)
      · refine tt_iconst (nI 0) dX6_dayOf_70 rfl ?_
        refine tt_goto (tgt := 80) dX6_dayOf_71 (by decide) ?_
        exact key_80 _ (by first | exact (if_pos (by assumption)).symm | exact (if_neg (by assumption)).symm | simp_all)
  · refine tt_if_eqB (tgt := 46) dX6_dayOf_39 (by decide) (fun c_39 => ?_) (fun c_39 => ?_)
    · refine tt_aload_n dX6_dayOf_46 rfl ?_
      refine tt_mA (b := 182) dX6_dayOf_47 fX6_7 rfl hM hM.2.1 ?_
      refine tt_iconst (nI 2) dX6_dayOf_50 rfl ?_
      refine tt_ld1 dX6_dayOf_51 hM (by omega) ?_
      exact key_52 _ (by first | exact (if_pos (by assumption)).symm | exact (if_neg (by assumption)).symm | simp_all)
    · refine tt_iconst (nI 0) dX6_dayOf_42 rfl ?_
      refine tt_goto (tgt := 52) dX6_dayOf_43 (by decide) ?_
      exact key_52 _ (by first | exact (if_pos (by assumption)).symm | exact (if_neg (by assumption)).symm | simp_all)
set_option maxRecDepth 100000 in
set_option maxHeartbeats 4000000 in
theorem c_X6_dayOf {h : zhp} (hM : zMo h) (F s a t l p : Nat → Int32) (n c : Nat) (hn : n < 10) (hc : c < 6) (hcu : s (34 + 10 * n + 0) = nI c) : MM iX6_dayOf [.ref 181, .int (nI n)] (zm h F s a t l p) (zfn (zm h F (sDo s n c) a t l p)) := by
  refine MM_of (by decide +kernel) (Nat.le_of_ble_eq_true rfl) ?_
  refine tt_aload_n dX6_dayOf_0 rfl ?_
  refine tt_iload_n dX6_dayOf_1 rfl ?_
  refine tt_aload_n dX6_dayOf_2 rfl ?_
  refine tt_mA (b := 182) dX6_dayOf_3 fX6_7 rfl hM hM.2.1 ?_
  refine tt_iconst (nI 0) dX6_dayOf_6 rfl ?_
  refine tt_ld1 dX6_dayOf_7 hM (by omega) ?_
  refine tt_iconst (nI 1) dX6_dayOf_8 rfl ?_
  refine tt_aload_n dX6_dayOf_9 rfl ?_
  refine tt_mA (b := 182) dX6_dayOf_10 fX6_7 rfl hM hM.2.1 ?_
  refine tt_iload_n dX6_dayOf_13 rfl ?_
  refine tt_iconst (nI 1) dX6_dayOf_14 rfl ?_
  refine tt_fSi (c_X6_of _ _ _) dX6_dayOf_15 sX6_29 rfl rfl (by decide) ⟨rfl, rfl⟩ (Nat.zero_le _) (Nat.zero_le _) (Nat.le_of_ble_eq_true rfl) ?_
  refine tt_ld1 dX6_dayOf_18 hM (by omega) ?_
  refine tt_iadd dX6_dayOf_19 ?_
  refine tt_imul dX6_dayOf_20 ?_
  refine tt_fVv (c_X6_charges hM _ _ _ _ _ _ _ c _ hn hc (hcu)) dX6_dayOf_21 vX6_43 rfl rfl hM.1 (by decide) rfl (by decide) ⟨rfl, rfl⟩ (Nat.zero_le _) (Nat.zero_le _) (Nat.le_of_ble_eq_true rfl) ?_
  refine tt_aload_n dX6_dayOf_24 rfl ?_
  refine tt_iload_n dX6_dayOf_25 rfl ?_
  refine tt_fVi (c_X6_isInStreet hM _ _ _ _ _ _ _ (by omega)) dX6_dayOf_26 vX6_47 rfl rfl hM.1 (by decide) rfl (by decide) ⟨rfl, rfl⟩ (Nat.zero_le _) (Nat.zero_le _) (Nat.le_of_ble_eq_true rfl) ?_
  refine tt_if_eqB (tgt := 114) dX6_dayOf_29 (by decide) (fun c_29 => ?_) (fun c_29 => ?_)
  · exact g_X6_dayOf_114 hM _ _ _ _ _ _ n c hn hc ⟨rfl, by unfold sDo; rw [if_neg (show ¬ sHi s n c _ < nI 5 from c_29)]; rfl⟩
  · exact g_X6_dayOf_32 hM _ _ _ _ _ _ n c hn hc (by rw [sCh_ne (by omega) (by omega)]; exact hcu) ⟨rfl, by unfold sDo; rw [if_pos (show sHi s n c _ < nI 5 from c_29)]; rfl⟩
