/-! the reference: a number, an order -/
theorem tk_le {p : Nat → Int32} {n : Nat} {lo hi : Int32} {k : Nat} {f : Bool} (hn : n ≤ 60) (hk : k ≤ 60) : (tk p n lo hi k f).2.1 ≤ 60 := by
  unfold tk
  by_cases q : f = false ∧ k < n ∧ (lo ≤ p k ∧ p k ≤ hi)
  · rw [if_pos q]
    show k + 1 ≤ 60
    have := q.2.1
    omega
  · rw [if_neg q]
    exact hk
theorem nu_big {vv m : Nat} {x : Int32} (hx : ∃ c, 33 ≤ c ∧ c ≤ 126 ∧ x = nI c) (h48 : nI 48 ≤ x) (hv : 10 ≤ vv) (hv2 : vv ≤ 200) (hm : m ≤ 99) : nI m < nI (10 * vv) + x - nI 48 := by
  obtain ⟨c, h1, h2, rfl⟩ := hx
  have h3 : 48 ≤ c := (nI_leI (by omega) (by omega)).mp h48
  rw [nI_add, pk_sub (by omega)]
  exact (nI_ltI (by omega) (by omega)).mpr (by omega)
set_option maxRecDepth 100000 in
set_option maxHeartbeats 4000000 in
theorem g_X6_numberUpTo_13b {h : zhp} (hM : zMo h) (F s a t l p : Nat → Int32) (n : Nat) (ht : pOK p n) (h7 : F 7 = nI n) (k : Nat) (f : Bool) (hk : k ≤ 60) (h8 : F 8 = nI k) (h9 : F 9 = zb (f = true)) (l0 m vv : Nat) (hm : m ≤ 99) (hv : 10 ≤ vv) (hv2 : vv ≤ 200) : TT iX6_numberUpTo 13 [some (.ref 181), some (.int (nI l0)), some (.int (nI m)), some (.int (nI vv))] [] (zm h F s a t l p) 0 0 (zfi (nI vv) (zm h F s a t l p)) := by
  refine tt_iload_n dX6_numberUpTo_13 rfl ?_
  refine tt_if_le (tgt := 80) dX6_numberUpTo_14 (by decide) (fun c_14 => ?_) (fun c_14 => ?_)
  · exact absurd c_14 (nI_nle (by omega) (by omega))
  · refine tt_aload_n dX6_numberUpTo_17 rfl ?_
    refine tt_bipush (nI 48) dX6_numberUpTo_18 rfl ?_
    refine tt_bipush (nI 57) dX6_numberUpTo_20 rfl ?_
    refine tt_fVi (c_X6_isNext hM _ _ _ _ _ _ n ht.1 h7 k f hk h8 h9 _ _) dX6_numberUpTo_22 vX6_153 rfl rfl hM.1 (by decide) rfl (by decide) ⟨rfl, rfl⟩ (Nat.zero_le _) (Nat.zero_le _) (Nat.le_of_ble_eq_true rfl) ?_
    refine tt_if_eqB (tgt := 80) dX6_numberUpTo_25 (by decide) (fun c_25 => ?_) (fun c_25 => ?_)
    · refine tt_iload_n dX6_numberUpTo_80 rfl ?_
      exact tt_ireturn dX6_numberUpTo_81 rfl rfl (Nat.zero_le _) (Nat.zero_le _) ⟨rfl, rfl⟩
    · have hk2 := c_25.2.1
      have hn60 := ht.1
      refine tt_bipush (nI 10) dX6_numberUpTo_28 rfl ?_
      refine tt_iload_n dX6_numberUpTo_30 rfl ?_
      refine tt_imulN dX6_numberUpTo_31 ?_
      refine tt_aload_n dX6_numberUpTo_32 rfl ?_
      refine tt_mA (b := 186) dX6_numberUpTo_33 fX6_22 rfl hM hM.2.2.2.2.2.1 ?_
      refine tt_aload_n dX6_numberUpTo_36 rfl ?_
      refine tt_mI dX6_numberUpTo_37 fX6_150 rfl hM ?_
      refine tt_eq (h8) ?_
      refine tt_ld5 dX6_numberUpTo_40 hM (by omega) ?_
      refine tt_iadd dX6_numberUpTo_41 ?_
      refine tt_bipush (nI 48) dX6_numberUpTo_42 rfl ?_
      refine tt_isub dX6_numberUpTo_44 ?_
      refine tt_iload_n dX6_numberUpTo_45 rfl ?_
      refine tt_icmp_gt (tgt := 80) dX6_numberUpTo_46 (by decide) (fun c_46 => ?_) (fun c_46 => ?_)
      · refine tt_iload_n dX6_numberUpTo_80 rfl ?_
        exact tt_ireturn dX6_numberUpTo_81 rfl rfl (Nat.zero_le _) (Nat.zero_le _) ⟨rfl, rfl⟩
      · exact absurd (nu_big (ht.2 k c_25.2.1) c_25.2.2.1 hv hv2 hm) c_46
set_option maxRecDepth 100000 in
set_option maxHeartbeats 4000000 in
theorem g_X6_numberUpTo_13a {h : zhp} (hM : zMo h) (F s a t l p : Nat → Int32) (n : Nat) (ht : pOK p n) (h7 : F 7 = nI n) (k : Nat) (f : Bool) (hk : k ≤ 60) (h8 : F 8 = nI k) (h9 : F 9 = zb (f = true)) (l0 m : Nat) (v : Int32) (hm : m ≤ 99) (hv : 0 < v → f = false → ∃ vv, 1 ≤ vv ∧ vv ≤ 9 ∧ v = nI vv) : TT iX6_numberUpTo 13 [some (.ref 181), some (.int (nI l0)), some (.int (nI m)), some (.int v)] [] (zm h F s a t l p) 0 0 (zfi (if 0 < v ∧ (f = false ∧ k < n ∧ (nI 48 ≤ p k ∧ p k ≤ nI 57)) ∧ nI 10 * v + p k - nI 48 ≤ nI m then nI 10 * v + p k - nI 48 else v) (zm h (if 0 < v ∧ (f = false ∧ k < n ∧ (nI 48 ≤ p k ∧ p k ≤ nI 57)) ∧ nI 10 * v + p k - nI 48 ≤ nI m then upd F 8 (nI (k + 1)) else F) s a t l p)) := by
  refine tt_iload_n dX6_numberUpTo_13 rfl ?_
  refine tt_if_le (tgt := 80) dX6_numberUpTo_14 (by decide) (fun c_14 => ?_) (fun c_14 => ?_)
  · refine tt_iload_n dX6_numberUpTo_80 rfl ?_
    exact tt_ireturn dX6_numberUpTo_81 rfl rfl (Nat.zero_le _) (Nat.zero_le _) (by
  have hnC : ¬ (0 < v ∧ (f = false ∧ k < n ∧ (nI 48 ≤ p k ∧ p k ≤ nI 57)) ∧ nI 10 * v + p k - nI 48 ≤ nI m) := by
    intro q
    first | exact absurd q.1 (Int32.not_lt.mpr c_14) | exact c_25 q.2.1 | exact absurd q.2.2 (Int32.not_le.mpr c_46)
  rw [if_neg hnC, if_neg hnC]
  exact ⟨rfl, rfl⟩)
  · refine tt_aload_n dX6_numberUpTo_17 rfl ?_
    refine tt_bipush (nI 48) dX6_numberUpTo_18 rfl ?_
    refine tt_bipush (nI 57) dX6_numberUpTo_20 rfl ?_
    refine tt_fVi (c_X6_isNext hM _ _ _ _ _ _ n ht.1 h7 k f hk h8 h9 _ _) dX6_numberUpTo_22 vX6_153 rfl rfl hM.1 (by decide) rfl (by decide) ⟨rfl, rfl⟩ (Nat.zero_le _) (Nat.zero_le _) (Nat.le_of_ble_eq_true rfl) ?_
    refine tt_if_eqB (tgt := 80) dX6_numberUpTo_25 (by decide) (fun c_25 => ?_) (fun c_25 => ?_)
    · refine tt_iload_n dX6_numberUpTo_80 rfl ?_
      exact tt_ireturn dX6_numberUpTo_81 rfl rfl (Nat.zero_le _) (Nat.zero_le _) (by
  have hnC : ¬ (0 < v ∧ (f = false ∧ k < n ∧ (nI 48 ≤ p k ∧ p k ≤ nI 57)) ∧ nI 10 * v + p k - nI 48 ≤ nI m) := by
    intro q
    first | exact absurd q.1 (Int32.not_lt.mpr c_14) | exact c_25 q.2.1 | exact absurd q.2.2 (Int32.not_le.mpr c_46)
  rw [if_neg hnC, if_neg hnC]
  exact ⟨rfl, rfl⟩)
    · have hk2 := c_25.2.1
      have hn60 := ht.1
      refine tt_bipush (nI 10) dX6_numberUpTo_28 rfl ?_
      refine tt_iload_n dX6_numberUpTo_30 rfl ?_
      refine tt_imul dX6_numberUpTo_31 ?_
      refine tt_aload_n dX6_numberUpTo_32 rfl ?_
      refine tt_mA (b := 186) dX6_numberUpTo_33 fX6_22 rfl hM hM.2.2.2.2.2.1 ?_
      refine tt_aload_n dX6_numberUpTo_36 rfl ?_
      refine tt_mI dX6_numberUpTo_37 fX6_150 rfl hM ?_
      refine tt_eq (h8) ?_
      refine tt_ld5 dX6_numberUpTo_40 hM (by omega) ?_
      refine tt_iadd dX6_numberUpTo_41 ?_
      refine tt_bipush (nI 48) dX6_numberUpTo_42 rfl ?_
      refine tt_isub dX6_numberUpTo_44 ?_
      refine tt_iload_n dX6_numberUpTo_45 rfl ?_
      refine tt_icmp_gt (tgt := 80) dX6_numberUpTo_46 (by decide) (fun c_46 => ?_) (fun c_46 => ?_)
      · refine tt_iload_n dX6_numberUpTo_80 rfl ?_
        exact tt_ireturn dX6_numberUpTo_81 rfl rfl (Nat.zero_le _) (Nat.zero_le _) (by
  have hnC : ¬ (0 < v ∧ (f = false ∧ k < n ∧ (nI 48 ≤ p k ∧ p k ≤ nI 57)) ∧ nI 10 * v + p k - nI 48 ≤ nI m) := by
    intro q
    first | exact absurd q.1 (Int32.not_lt.mpr c_14) | exact c_25 q.2.1 | exact absurd q.2.2 (Int32.not_le.mpr c_46)
  rw [if_neg hnC, if_neg hnC]
  exact ⟨rfl, rfl⟩)
      · have hC : 0 < v ∧ (f = false ∧ k < n ∧ (nI 48 ≤ p k ∧ p k ≤ nI 57)) ∧ nI 10 * v + p k - nI 48 ≤ nI m := ⟨Int32.not_le.mp c_14, c_25, Int32.not_lt.mp c_46⟩
        obtain ⟨vv, hv1, hv9, hve⟩ := hv (Int32.not_le.mp c_14) c_25.1
        obtain ⟨c, hc1, hc2, hce⟩ := ht.2 k c_25.2.1
        have hc48 : 48 ≤ c := (nI_leI (by omega) (by omega)).mp (by rw [← hce]; exact c_25.2.2.1)
        have hc57 : c ≤ 57 := (nI_leI (by omega) (by omega)).mp (by rw [← hce]; exact c_25.2.2.2)
        have hq : nI 10 * v + p k - nI 48 = nI (10 * vv + c - 48) := by rw [hve, hce, pk_mul, nI_add, pk_sub (by omega)]
        refine tt_bipush (nI 10) dX6_numberUpTo_49 rfl ?_
        refine tt_iload_n dX6_numberUpTo_51 rfl ?_
        refine tt_imul dX6_numberUpTo_52 ?_
        refine tt_aload_n dX6_numberUpTo_53 rfl ?_
        refine tt_mA (b := 186) dX6_numberUpTo_54 fX6_22 rfl hM hM.2.2.2.2.2.1 ?_
        refine tt_aload_n dX6_numberUpTo_57 rfl ?_
        refine tt_mI dX6_numberUpTo_58 fX6_150 rfl hM ?_
        refine tt_eq (h8) ?_
        refine tt_ld5 dX6_numberUpTo_61 hM (by omega) ?_
        refine tt_iadd dX6_numberUpTo_62 ?_
        refine tt_bipush (nI 48) dX6_numberUpTo_63 rfl ?_
        refine tt_isub dX6_numberUpTo_65 ?_
        refine tt_eq (hq) ?_
        refine tt_istore_n dX6_numberUpTo_66 rfl (Nat.le_of_ble_eq_true rfl) rfl ?_
        refine tt_aload_n dX6_numberUpTo_67 rfl ?_
        refine tt_dup dX6_numberUpTo_68 rfl ?_
        refine tt_mI dX6_numberUpTo_69 fX6_150 rfl hM ?_
        refine tt_eq (h8) ?_
        refine tt_iconst (nI 1) dX6_numberUpTo_72 rfl ?_
        refine tt_iaddN dX6_numberUpTo_73 ?_
        refine tt_mp dX6_numberUpTo_74 fX6_150 rfl rfl hM ?_
        refine tt_goto (tgt := 13) dX6_numberUpTo_77 (by decide) ?_
        rw [if_pos hC, if_pos hC, hq]
        exact g_X6_numberUpTo_13b hM (upd F 8 (nI (k + 1))) s a t l p n ht h7 (k + 1) f (by omega) rfl h9 l0 m _ hm (by omega) (by omega)
set_option maxRecDepth 100000 in
set_option maxHeartbeats 4000000 in
theorem c_X6_numberUpTo {h : zhp} (hM : zMo h) (F s a t l p : Nat → Int32) (n : Nat) (ht : pOK p n) (h7 : F 7 = nI n) (k : Nat) (f : Bool) (hk : k ≤ 60) (h8 : F 8 = nI k) (h9 : F 9 = zb (f = true)) (l0 m : Nat) (hl0 : l0 ≤ 1) (hm : m ≤ 99) : MM iX6_numberUpTo [.ref 181, .int (nI l0), .int (nI m)] (zm h F s a t l p) (zfi (nu p n l0 m k f).1 (zm h (upd (upd F 8 (nI (nu p n l0 m k f).2.1)) 9 (zb ((nu p n l0 m k f).2.2 = true))) s a t l p)) := by
  refine MM_of (by decide +kernel) (Nat.le_of_ble_eq_true rfl) ?_
  refine tt_aload_n dX6_numberUpTo_0 rfl ?_
  refine tt_bipush (nI 48) dX6_numberUpTo_1 rfl ?_
  refine tt_iload_n dX6_numberUpTo_3 rfl ?_
  refine tt_iaddN dX6_numberUpTo_4 ?_
  refine tt_bipush (nI 57) dX6_numberUpTo_5 rfl ?_
  refine tt_fVi (c_X6_takesOne hM _ _ _ _ _ _ n ht.1 h7 k f hk h8 h9 _ _) dX6_numberUpTo_7 vX6_157 rfl rfl hM.1 (by decide) rfl (by decide) ⟨rfl, rfl⟩ (Nat.zero_le _) (Nat.zero_le _) (Nat.le_of_ble_eq_true rfl) ?_
  refine tt_iload_n dX6_numberUpTo_10 rfl ?_
  refine tt_iadd dX6_numberUpTo_11 ?_
  refine tt_istore_n dX6_numberUpTo_12 rfl (Nat.le_of_ble_eq_true rfl) rfl ?_
  have e := g_X6_numberUpTo_13a hM (upd (upd F 8 (nI (tk p n (nI (48 + l0)) (nI 57) k f).2.1)) 9 (zb ((tk p n (nI (48 + l0)) (nI 57) k f).2.2 = true))) s a t l p n ht h7 (tk p n (nI (48 + l0)) (nI 57) k f).2.1 (tk p n (nI (48 + l0)) (nI 57) k f).2.2 (tk_le ht.1 hk) rfl rfl l0 m ((tk p n (nI (48 + l0)) (nI 57) k f).1 + nI l0) hm (fun hpos hff => by
    obtain ⟨g1, g2, g3, g4⟩ := tk_ok hff
    obtain ⟨c, hc1, hc2, hce⟩ := ht.2 k g2
    rw [hce] at g3
    have hc48 : 48 + l0 ≤ c := (nI_leI (by omega) (by omega)).mp g3.1
    have hc57 : c ≤ 57 := (nI_leI (by omega) (by omega)).mp g3.2
    have hv : (tk p n (nI (48 + l0)) (nI 57) k f).1 + nI l0 = nI (c - 48) := by
      rw [g4]
      show p k - nI (48 + l0) + nI l0 = _
      rw [hce, pk_sub hc48, nI_add, show c - (48 + l0) + l0 = c - 48 by omega]
    rw [hv] at hpos ⊢
    have : 0 < c - 48 := (nI_ltI (a := 0) (by omega) (by omega)).mp hpos
    exact ⟨c - 48, by omega, by omega, rfl⟩)
  by_cases hC : 0 < (tk p n (nI (48 + l0)) (nI 57) k f).1 + nI l0 ∧ ((tk p n (nI (48 + l0)) (nI 57) k f).2.2 = false ∧ (tk p n (nI (48 + l0)) (nI 57) k f).2.1 < n ∧ (nI 48 ≤ p (tk p n (nI (48 + l0)) (nI 57) k f).2.1 ∧ p (tk p n (nI (48 + l0)) (nI 57) k f).2.1 ≤ nI 57)) ∧ nI 10 * ((tk p n (nI (48 + l0)) (nI 57) k f).1 + nI l0) + p (tk p n (nI (48 + l0)) (nI 57) k f).2.1 - nI 48 ≤ nI m
  · rw [if_pos hC, if_pos hC] at e
    have e9 : nu p n l0 m k f = (nI 10 * ((tk p n (nI (48 + l0)) (nI 57) k f).1 + nI l0) + p (tk p n (nI (48 + l0)) (nI 57) k f).2.1 - nI 48, (tk p n (nI (48 + l0)) (nI 57) k f).2.1 + 1, false) := if_pos hC
    rw [e9]
    rw [upd3] at e
    have e8 : zb ((tk p n (nI (48 + l0)) (nI 57) k f).2.2 = true) = zb (false = true) := zb_cg (by rw [hC.2.1.1])
    dsimp only
    rw [← e8]
    exact e
  · rw [if_neg hC, if_neg hC] at e
    have e9 : nu p n l0 m k f = ((tk p n (nI (48 + l0)) (nI 57) k f).1 + nI l0, (tk p n (nI (48 + l0)) (nI 57) k f).2.1, (tk p n (nI (48 + l0)) (nI 57) k f).2.2) := if_neg hC
    rw [e9]
    exact e
